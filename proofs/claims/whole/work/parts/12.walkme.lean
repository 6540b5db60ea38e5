set_option maxRecDepth 20000 in
theorem wX11_fills_l2 {G : Wc} {Γ : Cx} {o : Nat} {S : Ob} {l1 : Int32} {l2 : Int32} (hk0 : kd o = 10) : ∀ (n : Nat) {l3 : Int32} {r : Int32}, pX11_fills_l2  S l1 l2 n l3 = some r → V cX11_fills RX11 2 81 9 G Γ [(o, S)] 16 [(0, .ref (wA G o 0)), (1, .int l1), (2, .int l2), (3, .int r)] [] → V cX11_fills RX11 2 81 9 G Γ [(o, S)] 2 [(0, .ref (wA G o 0)), (1, .int l1), (2, .int l2), (3, .int l3)] [] := by
  intro n
  induction n with
  | zero => intro l3 r hf hx; unfold pX11_fills_l2 at hf; cases hf
  | succ n ih =>
    intro l3 r hf hx
    have hrec : ∀ {l3 : Int32}, pX11_fills_l2  S l1 l2 n l3 = some r → V cX11_fills RX11 2 81 9 G Γ [(o, S)] 2 [(0, .ref (wA G o 0)), (1, .int l1), (2, .int l2), (3, .int l3)] [] := fun h => ih h hx
    clear ih
    unfold pX11_fills_l2 at hf
    refine v_iload_n (pc := 2) 1 dX11_fills_2 rfl ?_
    refine v_iload_n (pc := 3) 3 dX11_fills_3 rfl ?_
    replace hf := bd_some hf; obtain ⟨r1, h2, hf⟩ := hf
    refine V_callS (pc := 4) (us1 := [_]) [] (kX11_bitOf  h2) rfl rfl rfl rfl wm_RX11_333 md_X11_bitOf (Nat.le_of_ble_eq_true rfl) (Nat.le_of_ble_eq_true rfl) rfl rfl (Nat.le_of_ble_eq_true rfl) dX11_fills_4 ?_
    refine v_if_ne (pc := 7) 16 dX11_fills_7 (by decide) (fun c3 => ?_) (fun c3 => ?_)
    · replace hf := it_f c3 hf
      have hf2 := Option.some.inj hf; subst hf2
      exact V_sub [0, 1, 2, 3] rfl hx
    · replace hf := it_t c3 hf
      refine v_iinc (pc := 10) 3 (l3 + (-1 : Int32)) [(3, _), (0, _), (1, _), (2, _)] dX11_fills_10 rfl (congrArg (fun z => _ + z) ci_m1) (Nat.le_of_ble_eq_true rfl) rfl ?_
      refine v_goto (pc := 13) 2 dX11_fills_13 (by decide) ?_
      exact V_sub [1, 2, 3, 0] rfl (hrec hf)
set_option maxRecDepth 20000 in
theorem wX11_fills_j109 {G : Wc} {Γ : Cx} {o : Nat} {S : Ob} {l1 : Int32} {l2 : Int32} {l3 : Int32} {l4 : Int32} {l5 : Int32} {l6 : Int32} {l7 : Int32} {l8 : Int32} {s0 : Int32} {r : Int32} (hk0 : kd o = 10) {rec : Int32 → Int32 → Option (Int32)} (hrec : ∀ {l7 : Int32} {l8 : Int32}, rec l7 l8 = some r → V cX11_fills RX11 2 81 9 G Γ [(o, S)] 59 [(0, .ref (wA G o 0)), (1, .int l1), (2, .int l2), (3, .int l3), (4, .int l4), (5, .int l5), (6, .int l6), (7, .int l7), (8, .int l8)] []) (hx : V cX11_fills RX11 2 81 9 G Γ [(o, S)] 123 [(0, .ref (wA G o 0)), (1, .int l1), (2, .int l2), (3, .int l3), (4, .int l4), (5, .int l5), (6, .int l6), (7, .int r)] []) (hf : pX11_fills_j109 rec S l1 l2 l3 l4 l5 l6 l7 l8 s0 = some r) : V cX11_fills RX11 2 81 9 G Γ [(o, S)] 109 [(0, .ref (wA G o 0)), (1, .int l1), (2, .int l2), (3, .int l3), (4, .int l4), (5, .int l5), (6, .int l6), (7, .int l7), (8, .int l8)] [.int s0] := by
  unfold pX11_fills_j109 at hf
  refine v_istore (pc := 109) [(7, _), (0, _), (1, _), (2, _), (3, _), (4, _), (5, _), (6, _), (8, _)] dX11_fills_109 (Nat.le_of_ble_eq_true rfl) rfl ?_
  refine v_iload (pc := 111) 8 dX11_fills_111 rfl ?_
  refine v_iconst (pc := 113) (1 : Int32) dX11_fills_113 ci_1 ?_
  refine v_isub (pc := 114) dX11_fills_114 ?_
  refine v_iload (pc := 115) 7 dX11_fills_115 rfl ?_
  refine v_iand (pc := 117) dX11_fills_117 ?_
  refine v_istore (pc := 118) [(8, _), (7, _), (0, _), (1, _), (2, _), (3, _), (4, _), (5, _), (6, _)] dX11_fills_118 (Nat.le_of_ble_eq_true rfl) rfl ?_
  refine v_goto (pc := 120) 59 dX11_fills_120 (by decide) ?_
  exact V_sub [2, 3, 4, 5, 6, 7, 8, 1, 0] rfl (hrec hf)
set_option maxRecDepth 20000 in
theorem wX11_fills_j108 {G : Wc} {Γ : Cx} {o : Nat} {S : Ob} {l1 : Int32} {l2 : Int32} {l3 : Int32} {l4 : Int32} {l5 : Int32} {l6 : Int32} {l7 : Int32} {l8 : Int32} {r : Int32} (hk0 : kd o = 10) {rec : Int32 → Int32 → Option (Int32)} (hrec : ∀ {l7 : Int32} {l8 : Int32}, rec l7 l8 = some r → V cX11_fills RX11 2 81 9 G Γ [(o, S)] 59 [(0, .ref (wA G o 0)), (1, .int l1), (2, .int l2), (3, .int l3), (4, .int l4), (5, .int l5), (6, .int l6), (7, .int l7), (8, .int l8)] []) (hx : V cX11_fills RX11 2 81 9 G Γ [(o, S)] 123 [(0, .ref (wA G o 0)), (1, .int l1), (2, .int l2), (3, .int l3), (4, .int l4), (5, .int l5), (6, .int l6), (7, .int r)] []) (hf : pX11_fills_j108 rec S l1 l2 l3 l4 l5 l6 l7 l8 = some r) : V cX11_fills RX11 2 81 9 G Γ [(o, S)] 108 [(0, .ref (wA G o 0)), (1, .int l1), (2, .int l2), (3, .int l3), (4, .int l4), (5, .int l5), (6, .int l6), (7, .int l7), (8, .int l8)] [] := by
  unfold pX11_fills_j108 at hf
  refine v_iconst (pc := 108) (0 : Int32) dX11_fills_108 ci_0 ?_
  exact V_sub [0, 1, 2, 3, 4, 5, 6, 7, 8] rfl (wX11_fills_j109 hk0 hrec hx hf)
set_option maxRecDepth 20000 in
theorem wX11_fills_l59 {G : Wc} {Γ : Cx} {o : Nat} {S : Ob} {l1 : Int32} {l2 : Int32} {l3 : Int32} {l4 : Int32} {l5 : Int32} {l6 : Int32} (hk0 : kd o = 10) : ∀ (n : Nat) {l7 : Int32} {l8 : Int32} {r : Int32}, pX11_fills_l59  S l1 l2 l3 l4 l5 l6 n l7 l8 = some r → V cX11_fills RX11 2 81 9 G Γ [(o, S)] 123 [(0, .ref (wA G o 0)), (1, .int l1), (2, .int l2), (3, .int l3), (4, .int l4), (5, .int l5), (6, .int l6), (7, .int r)] [] → V cX11_fills RX11 2 81 9 G Γ [(o, S)] 59 [(0, .ref (wA G o 0)), (1, .int l1), (2, .int l2), (3, .int l3), (4, .int l4), (5, .int l5), (6, .int l6), (7, .int l7), (8, .int l8)] [] := by
  intro n
  induction n with
  | zero => intro l7 l8 r hf hx; unfold pX11_fills_l59 at hf; cases hf
  | succ n ih =>
    intro l7 l8 r hf hx
    have hrec : ∀ {l7 : Int32} {l8 : Int32}, pX11_fills_l59  S l1 l2 l3 l4 l5 l6 n l7 l8 = some r → V cX11_fills RX11 2 81 9 G Γ [(o, S)] 59 [(0, .ref (wA G o 0)), (1, .int l1), (2, .int l2), (3, .int l3), (4, .int l4), (5, .int l5), (6, .int l6), (7, .int l7), (8, .int l8)] [] := fun h => ih h hx
    clear ih
    unfold pX11_fills_l59 at hf
    refine v_iload (pc := 59) 8 dX11_fills_59 rfl ?_
    refine v_if_le (pc := 61) 123 dX11_fills_61 (by decide) (fun c9 => ?_) (fun c9 => ?_)
    · replace hf := it_t c9 hf
      have hf2 := Option.some.inj hf; subst hf2
      exact V_sub [0, 1, 2, 3, 4, 5, 6, 7] rfl hx
    · replace hf := it_f c9 hf
      refine v_iload (pc := 64) 7 dX11_fills_64 rfl ?_
      refine v_if_ne (pc := 66) 123 dX11_fills_66 (by decide) (fun c10 => ?_) (fun c10 => ?_)
      · replace hf := it_f c10 hf
        have hf2 := Option.some.inj hf; subst hf2
        exact V_sub [0, 1, 2, 3, 4, 5, 6, 7] rfl hx
      · replace hf := it_t c10 hf
        refine v_aload_n (pc := 69) 0 dX11_fills_69 rfl ?_
        refine gf_RX11_60 (pc := 70) 0 rfl hk0 dX11_fills_70 ?_
        refine v_iload (pc := 73) 8 dX11_fills_73 rfl ?_
        replace hf := gd_some hf; obtain ⟨g11, hf⟩ := hf
        refine al_X11_27 (pc := 75) _ 0 rfl hk0 rfl g11 dX11_fills_75 ?_
        refine v_iload (pc := 76) 4 dX11_fills_76 rfl ?_
        refine v_icmp_lt (pc := 78) 108 dX11_fills_78 (by decide) (fun c12 => ?_) (fun c12 => ?_)
        · replace hf := it_t c12 hf
          exact V_sub [0, 1, 2, 3, 4, 5, 6, 7, 8] rfl (wX11_fills_j108 hk0 hrec hx hf)
        · replace hf := it_f c12 hf
          refine v_aload_n (pc := 81) 0 dX11_fills_81 rfl ?_
          refine gf_RX11_56 (pc := 82) 0 rfl hk0 dX11_fills_82 ?_
          refine v_sipush (pc := 85) (1024 : Int32) dX11_fills_85 cs_1024 ?_
          refine v_iload_n (pc := 88) 1 dX11_fills_88 rfl ?_
          refine v_iconst (pc := 89) (1 : Int32) dX11_fills_89 ci_1 ?_
          refine v_iload_n (pc := 90) 3 dX11_fills_90 rfl ?_
          refine v_ishl (pc := 91) dX11_fills_91 ?_
          refine v_ixor (pc := 92) dX11_fills_92 ?_
          refine v_imul (pc := 93) dX11_fills_93 ?_
          refine v_iload (pc := 94) 6 dX11_fills_94 rfl ?_
          refine v_iload (pc := 96) 8 dX11_fills_96 rfl ?_
          refine v_ixor (pc := 98) dX11_fills_98 ?_
          refine v_iadd (pc := 99) dX11_fills_99 ?_
          replace hf := gd_some hf; obtain ⟨g13, hf⟩ := hf
          refine al_X11_26 (pc := 100) _ 0 rfl hk0 rfl g13 dX11_fills_100 ?_
          refine v_if_eq (pc := 101) 108 dX11_fills_101 (by decide) (fun c14 => ?_) (fun c14 => ?_)
          · replace hf := it_t c14 hf
            exact V_sub [0, 1, 2, 3, 4, 5, 6, 7, 8] rfl (wX11_fills_j108 hk0 hrec hx hf)
          · replace hf := it_f c14 hf
            refine v_iconst (pc := 104) (1 : Int32) dX11_fills_104 ci_1 ?_
            refine v_goto (pc := 105) 109 dX11_fills_105 (by decide) ?_
            exact V_sub [0, 1, 2, 3, 4, 5, 6, 7, 8] rfl (wX11_fills_j109 hk0 hrec hx hf)
set_option maxRecDepth 20000 in
theorem wX11_fills_j148 {G : Wc} {Γ : Cx} {o : Nat} {S : Ob} {l1 : Int32} {l2 : Int32} {l3 : Int32} {l4 : Int32} {l5 : Int32} {l6 : Int32} {r : Int32 × Ob} (hk0 : kd o = 10) {rec : Int32 → Int32 → Ob → Option (Int32 × Ob)} (hrec : ∀ {l5 : Int32} {l6 : Int32} {S : Ob}, rec l5 l6 S = some r → V cX11_fills RX11 2 81 9 G Γ [(o, S)] 44 [(0, .ref (wA G o 0)), (1, .int l1), (2, .int l2), (3, .int l3), (4, .int l4), (5, .int l5), (6, .int l6)] []) (hx : V cX11_fills RX11 2 81 9 G Γ [(o, r.2)] 161 [(5, .int r.1)] []) (hf : pX11_fills_j148 rec S l1 l2 l3 l4 l5 l6 = some r) : V cX11_fills RX11 2 81 9 G Γ [(o, S)] 148 [(0, .ref (wA G o 0)), (1, .int l1), (2, .int l2), (3, .int l3), (4, .int l4), (5, .int l5), (6, .int l6)] [] := by
  unfold pX11_fills_j148 at hf
  refine v_iconst (pc := 148) (1 : Int32) dX11_fills_148 ci_1 ?_
  refine v_goto (pc := 149) 153 dX11_fills_149 (by decide) ?_
  refine v_istore (pc := 153) [(5, _), (0, _), (1, _), (2, _), (3, _), (4, _), (6, _)] dX11_fills_153 (Nat.le_of_ble_eq_true rfl) rfl ?_
  refine v_iinc (pc := 155) 6 (l6 + (1 : Int32)) [(6, _), (5, _), (0, _), (1, _), (2, _), (3, _), (4, _)] dX11_fills_155 rfl (congrArg (fun z => _ + z) ci_1) (Nat.le_of_ble_eq_true rfl) rfl ?_
  refine v_goto (pc := 158) 44 dX11_fills_158 (by decide) ?_
  exact V_sub [2, 3, 4, 5, 6, 1, 0] rfl (hrec hf)
set_option maxRecDepth 20000 in
theorem wX11_fills_l44 {G : Wc} {Γ : Cx} {o : Nat} {l1 : Int32} {l2 : Int32} {l3 : Int32} {l4 : Int32} (hk0 : kd o = 10) : ∀ (n : Nat) {l5 : Int32} {l6 : Int32} {S : Ob} {r : Int32 × Ob}, pX11_fills_l44  l1 l2 l3 l4 n l5 l6 S = some r → V cX11_fills RX11 2 81 9 G Γ [(o, r.2)] 161 [(5, .int r.1)] [] → V cX11_fills RX11 2 81 9 G Γ [(o, S)] 44 [(0, .ref (wA G o 0)), (1, .int l1), (2, .int l2), (3, .int l3), (4, .int l4), (5, .int l5), (6, .int l6)] [] := by
  intro n
  induction n with
  | zero => intro l5 l6 S r hf hx; unfold pX11_fills_l44 at hf; cases hf
  | succ n ih =>
    intro l5 l6 S r hf hx
    have hrec : ∀ {l5 : Int32} {l6 : Int32} {S : Ob}, pX11_fills_l44  l1 l2 l3 l4 n l5 l6 S = some r → V cX11_fills RX11 2 81 9 G Γ [(o, S)] 44 [(0, .ref (wA G o 0)), (1, .int l1), (2, .int l2), (3, .int l3), (4, .int l4), (5, .int l5), (6, .int l6)] [] := fun h => ih h hx
    clear ih
    unfold pX11_fills_l44 at hf
    refine v_iload (pc := 44) 6 dX11_fills_44 rfl ?_
    refine v_iconst (pc := 46) (1 : Int32) dX11_fills_46 ci_1 ?_
    refine v_iload_n (pc := 47) 2 dX11_fills_47 rfl ?_
    refine v_ishl (pc := 48) dX11_fills_48 ?_
    refine v_icmp_ge (pc := 49) 161 dX11_fills_49 (by decide) (fun c8 => ?_) (fun c8 => ?_)
    · replace hf := it_t c8 hf
      have hf2 := Option.some.inj hf; subst hf2
      exact V_sub [5] rfl hx
    · replace hf := it_f c8 hf
      refine v_iconst (pc := 52) (0 : Int32) dX11_fills_52 ci_0 ?_
      refine v_istore (pc := 53) [(7, _), (0, _), (1, _), (2, _), (3, _), (4, _), (5, _), (6, _)] dX11_fills_53 (Nat.le_of_ble_eq_true rfl) rfl ?_
      refine v_iload (pc := 55) 7 dX11_fills_55 rfl ?_
      refine v_istore (pc := 57) [(8, _), (7, _), (0, _), (1, _), (2, _), (3, _), (4, _), (5, _), (6, _)] dX11_fills_57 (Nat.le_of_ble_eq_true rfl) rfl ?_
      replace hf := bd_some hf; obtain ⟨r15, h16, hf⟩ := hf
      refine V_sub [2, 3, 4, 5, 6, 7, 8, 1, 0] rfl (wX11_fills_l59 hk0 fu h16 ?_)
      refine v_aload_n (pc := 123) 0 dX11_fills_123 rfl ?_
      refine gf_RX11_56 (pc := 124) 0 rfl hk0 dX11_fills_124 ?_
      refine v_sipush (pc := 127) (1024 : Int32) dX11_fills_127 cs_1024 ?_
      refine v_iload_n (pc := 130) 1 dX11_fills_130 rfl ?_
      refine v_imul (pc := 131) dX11_fills_131 ?_
      refine v_iload (pc := 132) 6 dX11_fills_132 rfl ?_
      refine v_iadd (pc := 134) dX11_fills_134 ?_
      refine v_iload (pc := 135) 7 dX11_fills_135 rfl ?_
      replace hf := gd_some hf; obtain ⟨g17, hf⟩ := hf
      replace hf := gd_some hf; obtain ⟨g18, hf⟩ := hf
      refine as_X11_26 (pc := 137) [_] _ 0 rfl hk0 rfl g18 g17 rfl dX11_fills_137 ?_
      refine v_iload (pc := 138) 5 dX11_fills_138 rfl ?_
      refine v_if_ne (pc := 140) 148 dX11_fills_140 (by decide) (fun c19 => ?_) (fun c19 => ?_)
      · replace hf := it_f c19 hf
        exact V_sub [0, 1, 2, 3, 4, 5, 6] rfl (wX11_fills_j148 hk0 hrec hx hf)
      · replace hf := it_t c19 hf
        refine v_iload (pc := 143) 7 dX11_fills_143 rfl ?_
        refine v_if_eq (pc := 145) 152 dX11_fills_145 (by decide) (fun c20 => ?_) (fun c20 => ?_)
        · replace hf := it_t c20 hf
          refine v_iconst (pc := 152) (0 : Int32) dX11_fills_152 ci_0 ?_
          refine v_istore (pc := 153) [(5, _), (0, _), (1, _), (2, _), (3, _), (4, _), (6, _), (7, _)] dX11_fills_153 (Nat.le_of_ble_eq_true rfl) rfl ?_
          refine v_iinc (pc := 155) 6 (l6 + (1 : Int32)) [(6, _), (5, _), (0, _), (1, _), (2, _), (3, _), (4, _), (7, _)] dX11_fills_155 rfl (congrArg (fun z => _ + z) ci_1) (Nat.le_of_ble_eq_true rfl) rfl ?_
          refine v_goto (pc := 158) 44 dX11_fills_158 (by decide) ?_
          exact V_sub [2, 3, 4, 5, 6, 1, 0] rfl (hrec hf)
        · replace hf := it_f c20 hf
          exact V_sub [0, 1, 2, 3, 4, 5, 6] rfl (wX11_fills_j148 hk0 hrec hx hf)
set_option maxRecDepth 20000 in
theorem kX11_fills {G : Wc} {o : Nat} {S : Ob} {a : Int32} {b : Int32} {r : Int32 × Ob} (hk0 : kd o = 10) (hf : pX11_fills S  a b = some r) : Cn yX11_fills cX11_fills 9 (some .boolean) 2 81 G [.ref (wA G o 0), .int a, .int b] [(o, S)] [(o, r.2)] (some (.int r.1)) := by
  refine V_method [(0, .ref (wA G o 0)), (1, .int a), (2, .int b)] (by decide) rfl (Nat.le_of_ble_eq_true rfl) rfl (fun Γ hF => ?_)
  unfold pX11_fills at hf
  refine v_iconst (pc := 0) (3 : Int32) dX11_fills_0 ci_3 ?_
  refine v_istore_n (pc := 1) [(3, _), (0, _), (1, _), (2, _)] dX11_fills_1 (Nat.le_of_ble_eq_true rfl) rfl ?_
  replace hf := bd_some hf; obtain ⟨r4, h5, hf⟩ := hf
  refine V_sub [1, 2, 3, 0] rfl (wX11_fills_l2 hk0 fu h5 ?_)
  refine v_aload_n (pc := 16) 0 dX11_fills_16 rfl ?_
  refine gf_RX11_33 (pc := 17) 0 rfl hk0 dX11_fills_17 ?_
  refine v_bipush (pc := 20) (117 : Int32) dX11_fills_20 cb_117 ?_
  refine v_iload_n (pc := 22) 3 dX11_fills_22 rfl ?_
  refine v_iadd (pc := 23) dX11_fills_23 ?_
  replace hf := gd_some hf; obtain ⟨g6, hf⟩ := hf
  refine al_X11_6 (pc := 24) _ 0 rfl hk0 rfl g6 dX11_fills_24 ?_
  refine v_aload_n (pc := 25) 0 dX11_fills_25 rfl ?_
  refine gf_RX11_33 (pc := 26) 0 rfl hk0 dX11_fills_26 ?_
  refine v_sipush (pc := 29) (193 : Int32) dX11_fills_29 cs_193 ?_
  refine v_iload_n (pc := 32) 3 dX11_fills_32 rfl ?_
  refine v_iadd (pc := 33) dX11_fills_33 ?_
  replace hf := gd_some hf; obtain ⟨g7, hf⟩ := hf
  refine al_X11_6 (pc := 34) _ 0 rfl hk0 rfl g7 dX11_fills_34 ?_
  refine v_isub (pc := 35) dX11_fills_35 ?_
  refine v_istore (pc := 36) [(4, _), (0, _), (1, _), (2, _), (3, _)] dX11_fills_36 (Nat.le_of_ble_eq_true rfl) rfl ?_
  refine v_iconst (pc := 38) (0 : Int32) dX11_fills_38 ci_0 ?_
  refine v_istore (pc := 39) [(5, _), (4, _), (0, _), (1, _), (2, _), (3, _)] dX11_fills_39 (Nat.le_of_ble_eq_true rfl) rfl ?_
  refine v_iconst (pc := 41) (0 : Int32) dX11_fills_41 ci_0 ?_
  refine v_istore (pc := 42) [(6, _), (5, _), (4, _), (0, _), (1, _), (2, _), (3, _)] dX11_fills_42 (Nat.le_of_ble_eq_true rfl) rfl ?_
  replace hf := bd_some hf; obtain ⟨r21, h22, hf⟩ := hf
  refine V_sub [3, 4, 5, 6, 2, 1, 0] rfl (wX11_fills_l44 hk0 fu h22 ?_)
  refine v_iload (pc := 161) 0 dX11_fills_161 rfl ?_
  replace hf := gd_some hf; obtain ⟨g23, hf⟩ := hf
  have hf2 := Option.some.inj hf; subst hf2
  exact V_zret (pc := 163) hF g23 dX11_fills_163
set_option maxRecDepth 20000 in
theorem wX11_beds_l20 {G : Wc} {Γ : Cx} {o : Nat} {l1 : Int32} {l2 : Int32} {l3 : Int32} (hk0 : kd o = 10) : ∀ (n : Nat) {l4 : Int32} {S : Ob} {r : Ob}, pX11_beds_l20  l1 l2 l3 n l4 S = some r → V cX11_beds RX11 3 109 7 G Γ [(o, r)] 51 [(0, .ref (wA G o 0)), (1, .int l1), (2, .int l2), (3, .int l3)] [] → V cX11_beds RX11 3 109 7 G Γ [(o, S)] 20 [(0, .ref (wA G o 0)), (1, .int l1), (2, .int l2), (3, .int l3), (4, .int l4)] [] := by
  intro n
  induction n with
  | zero => intro l4 S r hf hx; unfold pX11_beds_l20 at hf; cases hf
  | succ n ih =>
    intro l4 S r hf hx
    have hrec : ∀ {l4 : Int32} {S : Ob}, pX11_beds_l20  l1 l2 l3 n l4 S = some r → V cX11_beds RX11 3 109 7 G Γ [(o, S)] 20 [(0, .ref (wA G o 0)), (1, .int l1), (2, .int l2), (3, .int l3), (4, .int l4)] [] := fun h => ih h hx
    clear ih
    unfold pX11_beds_l20 at hf
    refine v_iload (pc := 20) 4 dX11_beds_20 rfl ?_
    refine v_iconst (pc := 22) (1 : Int32) dX11_beds_22 ci_1 ?_
    refine v_iload_n (pc := 23) 1 dX11_beds_23 rfl ?_
    refine v_ishl (pc := 24) dX11_beds_24 ?_
    refine v_icmp_ge (pc := 25) 51 dX11_beds_25 (by decide) (fun c5 => ?_) (fun c5 => ?_)
    · replace hf := it_t c5 hf
      have hf2 := Option.some.inj hf; subst hf2
      exact V_sub [0, 1, 2, 3] rfl hx
    · replace hf := it_f c5 hf
      refine v_aload_n (pc := 28) 0 dX11_beds_28 rfl ?_
      refine gf_RX11_56 (pc := 29) 0 rfl hk0 dX11_beds_29 ?_
      refine v_iload (pc := 32) 4 dX11_beds_32 rfl ?_
      refine v_iload (pc := 34) 4 dX11_beds_34 rfl ?_
      refine v_if_ne (pc := 36) 43 dX11_beds_36 (by decide) (fun c6 => ?_) (fun c6 => ?_)
      · replace hf := it_f c6 hf
        refine v_iconst (pc := 43) (0 : Int32) dX11_beds_43 ci_0 ?_
        replace hf := gd_some hf; obtain ⟨g7, hf⟩ := hf
        refine as_X11_26 (pc := 44) [_] _ 0 rfl hk0 rfl g7 rfl rfl dX11_beds_44 ?_
        refine v_iinc (pc := 45) 4 (l4 + (1 : Int32)) [(4, _), (0, _), (1, _), (2, _), (3, _)] dX11_beds_45 rfl (congrArg (fun z => _ + z) ci_1) (Nat.le_of_ble_eq_true rfl) rfl ?_
        refine v_goto (pc := 48) 20 dX11_beds_48 (by decide) ?_
        exact V_sub [1, 2, 3, 4, 0] rfl (hrec hf)
      · replace hf := it_t c6 hf
        refine v_iconst (pc := 39) (1 : Int32) dX11_beds_39 ci_1 ?_
        refine v_goto (pc := 40) 44 dX11_beds_40 (by decide) ?_
        replace hf := gd_some hf; obtain ⟨g8, hf⟩ := hf
        refine as_X11_26 (pc := 44) [_] _ 0 rfl hk0 rfl g8 rfl rfl dX11_beds_44 ?_
        refine v_iinc (pc := 45) 4 (l4 + (1 : Int32)) [(4, _), (0, _), (1, _), (2, _), (3, _)] dX11_beds_45 rfl (congrArg (fun z => _ + z) ci_1) (Nat.le_of_ble_eq_true rfl) rfl ?_
        refine v_goto (pc := 48) 20 dX11_beds_48 (by decide) ?_
        exact V_sub [1, 2, 3, 4, 0] rfl (hrec hf)
set_option maxRecDepth 20000 in
theorem wX11_beds_l54 {G : Wc} {Γ : Cx} {o : Nat} {l1 : Int32} {l2 : Int32} (hk0 : kd o = 10) : ∀ (n : Nat) {l3 : Int32} {l4 : Int32} {S : Ob} {r : Int32 × Ob}, pX11_beds_l54  l1 l2 n l3 l4 S = some r → V cX11_beds RX11 3 109 7 G Γ [(o, r.2)] 136 [(0, .ref (wA G o 0)), (3, .int r.1)] [] → V cX11_beds RX11 3 109 7 G Γ [(o, S)] 54 [(0, .ref (wA G o 0)), (1, .int l1), (2, .int l2), (3, .int l3), (4, .int l4)] [] := by
  intro n
  induction n with
  | zero => intro l3 l4 S r hf hx; unfold pX11_beds_l54 at hf; cases hf
  | succ n ih =>
    intro l3 l4 S r hf hx
    have hrec : ∀ {l3 : Int32} {l4 : Int32} {S : Ob}, pX11_beds_l54  l1 l2 n l3 l4 S = some r → V cX11_beds RX11 3 109 7 G Γ [(o, S)] 54 [(0, .ref (wA G o 0)), (1, .int l1), (2, .int l2), (3, .int l3), (4, .int l4)] [] := fun h => ih h hx
    clear ih
    unfold pX11_beds_l54 at hf
    refine v_iload (pc := 54) 4 dX11_beds_54 rfl ?_
    refine v_iconst (pc := 56) (1 : Int32) dX11_beds_56 ci_1 ?_
    refine v_aload_n (pc := 57) 0 dX11_beds_57 rfl ?_
    refine gf_RX11_33 (pc := 58) 0 rfl hk0 dX11_beds_58 ?_
    refine v_iconst (pc := 61) (3 : Int32) dX11_beds_61 ci_3 ?_
    refine al_X11_6 (pc := 62) 3 0 rfl hk0 rfl ib_3_390 dX11_beds_62 ?_
    refine v_ishl (pc := 63) dX11_beds_63 ?_
    refine v_icmp_ge (pc := 64) 136 dX11_beds_64 (by decide) (fun c11 => ?_) (fun c11 => ?_)
    · replace hf := it_t c11 hf
      have hf2 := Option.some.inj hf; subst hf2
      exact V_sub [0, 3] rfl hx
    · replace hf := it_f c11 hf
      refine v_iload (pc := 67) 4 dX11_beds_67 rfl ?_
      refine v_iload_n (pc := 69) 2 dX11_beds_69 rfl ?_
      refine v_iand (pc := 70) dX11_beds_70 ?_
      refine v_if_eq (pc := 71) 77 dX11_beds_71 (by decide) (fun c12 => ?_) (fun c12 => ?_)
      · replace hf := it_t c12 hf
        refine v_aload_n (pc := 77) 0 dX11_beds_77 rfl ?_
        refine v_iload (pc := 78) 4 dX11_beds_78 rfl ?_
        refine v_iload_n (pc := 80) 1 dX11_beds_80 rfl ?_
        replace hf := bd_some hf; obtain ⟨r13, h14, hf⟩ := hf
        refine V_call (pc := 81) (us1 := [_]) [0] 0 (kX11_fills (o := o) hk0 h14) rfl rfl rfl rfl rfl hk0 (Nat.le_of_ble_eq_true rfl) rfl rfl rfl wm_RX11_348 md_X11_fills (Nat.le_of_ble_eq_true rfl) (Nat.le_of_ble_eq_true rfl) rfl rfl (Nat.le_of_ble_eq_true rfl) dX11_beds_81 ?_
        refine v_istore (pc := 84) [(5, _), (0, _), (1, _), (2, _), (3, _), (4, _)] dX11_beds_84 (Nat.le_of_ble_eq_true rfl) rfl ?_
        refine v_iload (pc := 86) 5 dX11_beds_86 rfl ?_
        refine v_iload_n (pc := 88) 3 dX11_beds_88 rfl ?_
        refine v_ior (pc := 89) dX11_beds_89 ?_
        refine v_istore (pc := 90) [(6, _), (5, _), (0, _), (1, _), (2, _), (3, _), (4, _)] dX11_beds_90 (Nat.le_of_ble_eq_true rfl) rfl ?_
        refine v_iload (pc := 92) 1 dX11_beds_92 rfl ?_
        refine v_if_eq (pc := 94) 130 dX11_beds_94 (by decide) (fun c15 => ?_) (fun c15 => ?_)
        · replace hf := it_t c15 hf
          refine v_iinc (pc := 130) 6 (l4 + (1 : Int32)) [(4, _), (6, _), (5, _), (0, _), (1, _), (2, _), (3, _)] dX11_beds_130 rfl (congrArg (fun z => _ + z) ci_1) (Nat.le_of_ble_eq_true rfl) rfl ?_
          refine v_goto (pc := 133) 54 dX11_beds_133 (by decide) ?_
          exact V_sub [3, 4, 5, 6, 0] rfl (hrec hf)
        · replace hf := it_f c15 hf
          refine v_iload (pc := 97) 0 dX11_beds_97 rfl ?_
          replace hf := bd_some hf; obtain ⟨r16, h17, hf⟩ := hf
          refine V_callS (pc := 99) (us1 := [_]) [] (kX11_bits  h17) rfl rfl rfl rfl wm_RX11_336 md_X11_bits (Nat.le_of_ble_eq_true rfl) (Nat.le_of_ble_eq_true rfl) rfl rfl (Nat.le_of_ble_eq_true rfl) dX11_beds_99 ?_
          refine v_iload_n (pc := 102) 5 dX11_beds_102 rfl ?_
          replace hf := bd_some hf; obtain ⟨r18, h19, hf⟩ := hf
          refine V_callS (pc := 103) (us1 := [_]) [] (kX11_bits  h19) rfl rfl rfl rfl wm_RX11_336 md_X11_bits (Nat.le_of_ble_eq_true rfl) (Nat.le_of_ble_eq_true rfl) rfl rfl (Nat.le_of_ble_eq_true rfl) dX11_beds_103 ?_
          refine v_icmp_gt (pc := 106) 127 dX11_beds_106 (by decide) (fun c20 => ?_) (fun c20 => ?_)
          · replace hf := it_t c20 hf
            refine v_iload (pc := 127) 0 dX11_beds_127 rfl ?_
            refine v_istore_n (pc := 129) [(3, _), (6, _), (5, _), (0, _), (1, _), (2, _), (4, _)] dX11_beds_129 (Nat.le_of_ble_eq_true rfl) rfl ?_
            refine v_iinc (pc := 130) 6 (l4 + (1 : Int32)) [(4, _), (3, _), (6, _), (5, _), (0, _), (1, _), (2, _)] dX11_beds_130 rfl (congrArg (fun z => _ + z) ci_1) (Nat.le_of_ble_eq_true rfl) rfl ?_
            refine v_goto (pc := 133) 54 dX11_beds_133 (by decide) ?_
            exact V_sub [4, 5, 6, 1, 0] rfl (hrec hf)
          · replace hf := it_f c20 hf
            refine v_iload (pc := 109) 0 dX11_beds_109 rfl ?_
            replace hf := bd_some hf; obtain ⟨r21, h22, hf⟩ := hf
            refine V_callS (pc := 111) (us1 := [_]) [] (kX11_bits  h22) rfl rfl rfl rfl wm_RX11_336 md_X11_bits (Nat.le_of_ble_eq_true rfl) (Nat.le_of_ble_eq_true rfl) rfl rfl (Nat.le_of_ble_eq_true rfl) dX11_beds_111 ?_
            refine v_iload_n (pc := 114) 5 dX11_beds_114 rfl ?_
            replace hf := bd_some hf; obtain ⟨r23, h24, hf⟩ := hf
            refine V_callS (pc := 115) (us1 := [_]) [] (kX11_bits  h24) rfl rfl rfl rfl wm_RX11_336 md_X11_bits (Nat.le_of_ble_eq_true rfl) (Nat.le_of_ble_eq_true rfl) rfl rfl (Nat.le_of_ble_eq_true rfl) dX11_beds_115 ?_
            refine v_icmp_ne (pc := 118) 130 dX11_beds_118 (by decide) (fun c25 => ?_) (fun c25 => ?_)
            · replace hf := it_f c25 hf
              refine v_iinc (pc := 130) 6 (l4 + (1 : Int32)) [(4, _), (6, _), (5, _), (0, _), (1, _), (2, _), (3, _)] dX11_beds_130 rfl (congrArg (fun z => _ + z) ci_1) (Nat.le_of_ble_eq_true rfl) rfl ?_
              refine v_goto (pc := 133) 54 dX11_beds_133 (by decide) ?_
              exact V_sub [3, 4, 5, 6, 0] rfl (hrec hf)
            · replace hf := it_t c25 hf
              refine v_iload (pc := 121) 0 dX11_beds_121 rfl ?_
              refine v_iload_n (pc := 123) 5 dX11_beds_123 rfl ?_
              refine v_icmp_ge (pc := 124) 130 dX11_beds_124 (by decide) (fun c26 => ?_) (fun c26 => ?_)
              · replace hf := it_t c26 hf
                refine v_iinc (pc := 130) 6 (l4 + (1 : Int32)) [(4, _), (6, _), (5, _), (0, _), (1, _), (2, _), (3, _)] dX11_beds_130 rfl (congrArg (fun z => _ + z) ci_1) (Nat.le_of_ble_eq_true rfl) rfl ?_
                refine v_goto (pc := 133) 54 dX11_beds_133 (by decide) ?_
                exact V_sub [3, 4, 5, 6, 0] rfl (hrec hf)
              · replace hf := it_f c26 hf
                refine v_iload (pc := 127) 0 dX11_beds_127 rfl ?_
                refine v_istore_n (pc := 129) [(3, _), (6, _), (5, _), (0, _), (1, _), (2, _), (4, _)] dX11_beds_129 (Nat.le_of_ble_eq_true rfl) rfl ?_
                refine v_iinc (pc := 130) 6 (l4 + (1 : Int32)) [(4, _), (3, _), (6, _), (5, _), (0, _), (1, _), (2, _)] dX11_beds_130 rfl (congrArg (fun z => _ + z) ci_1) (Nat.le_of_ble_eq_true rfl) rfl ?_
                refine v_goto (pc := 133) 54 dX11_beds_133 (by decide) ?_
                exact V_sub [4, 5, 6, 1, 0] rfl (hrec hf)
      · replace hf := it_f c12 hf
        refine v_goto (pc := 74) 130 dX11_beds_74 (by decide) ?_
        refine v_iinc (pc := 130) 4 (l4 + (1 : Int32)) [(4, _), (0, _), (1, _), (2, _), (3, _)] dX11_beds_130 rfl (congrArg (fun z => _ + z) ci_1) (Nat.le_of_ble_eq_true rfl) rfl ?_
        refine v_goto (pc := 133) 54 dX11_beds_133 (by decide) ?_
        exact V_sub [1, 2, 3, 4, 0] rfl (hrec hf)
set_option maxRecDepth 20000 in
theorem kX11_beds {G : Wc} {o : Nat} {S : Ob}  {r : Int32 × Ob} (hk0 : kd o = 10) (hf : pX11_beds S   = some r) : Cn yX11_beds cX11_beds 7 (some .int) 3 109 G [.ref (wA G o 0)] [(o, S)] [(o, r.2)] (some (.int r.1)) := by
  refine V_method [(0, .ref (wA G o 0))] (by decide) rfl (Nat.le_of_ble_eq_true rfl) rfl (fun Γ hF => ?_)
  unfold pX11_beds at hf
  refine v_aload_n (pc := 0) 0 dX11_beds_0 rfl ?_
  refine v_iconst (pc := 1) (0 : Int32) dX11_beds_1 ci_0 ?_
  refine pf_RX11_1 (pc := 2) [_] 0 rfl hk0 rfl dX11_beds_2 ?_
  refine v_aload_n (pc := 5) 0 dX11_beds_5 rfl ?_
  replace hf := bd_some hf; obtain ⟨r1, h2, hf⟩ := hf
  refine V_call (pc := 6) (us1 := [_]) [0] 0 (kX11_laysBag (o := o) hk0 h2) rfl rfl rfl rfl rfl hk0 (Nat.le_of_ble_eq_true rfl) rfl rfl rfl wm_RX11_345 md_X11_laysBag (Nat.le_of_ble_eq_true rfl) (Nat.le_of_ble_eq_true rfl) rfl rfl (Nat.le_of_ble_eq_true rfl) dX11_beds_6 ?_
  refine v_istore_n (pc := 9) [(1, _), (0, _)] dX11_beds_9 (Nat.le_of_ble_eq_true rfl) rfl ?_
  refine v_aload_n (pc := 10) 1 dX11_beds_10 rfl ?_
  replace hf := bd_some hf; obtain ⟨r3, h4, hf⟩ := hf
  refine V_call (pc := 11) (us1 := [_]) [0] 0 (kX11_sleptOn (o := o) hk0 h4) rfl rfl rfl rfl rfl hk0 (Nat.le_of_ble_eq_true rfl) rfl rfl rfl wm_RX11_289 md_X11_sleptOn (Nat.le_of_ble_eq_true rfl) (Nat.le_of_ble_eq_true rfl) rfl rfl (Nat.le_of_ble_eq_true rfl) dX11_beds_11 ?_
  refine v_istore_n (pc := 14) [(2, _), (1, _), (0, _)] dX11_beds_14 (Nat.le_of_ble_eq_true rfl) rfl ?_
  refine v_iload_n (pc := 15) 0 dX11_beds_15 rfl ?_
  refine v_istore_n (pc := 16) [(3, _), (2, _), (1, _), (0, _)] dX11_beds_16 (Nat.le_of_ble_eq_true rfl) rfl ?_
  refine v_iconst (pc := 17) (0 : Int32) dX11_beds_17 ci_0 ?_
  refine v_istore (pc := 18) [(4, _), (3, _), (2, _), (1, _), (0, _)] dX11_beds_18 (Nat.le_of_ble_eq_true rfl) rfl ?_
  replace hf := bd_some hf; obtain ⟨r9, h10, hf⟩ := hf
  refine V_sub [4, 3, 2, 1, 0] rfl (wX11_beds_l20 hk0 fu h10 ?_)
  refine v_iconst (pc := 51) (1 : Int32) dX11_beds_51 ci_1 ?_
  refine v_istore (pc := 52) [(4, _), (0, _), (1, _), (2, _), (3, _)] dX11_beds_52 (Nat.le_of_ble_eq_true rfl) rfl ?_
  replace hf := bd_some hf; obtain ⟨r27, h28, hf⟩ := hf
  refine V_sub [1, 2, 3, 4, 0] rfl (wX11_beds_l54 hk0 fu h28 ?_)
  refine v_aload_n (pc := 136) 0 dX11_beds_136 rfl ?_
  refine v_iconst (pc := 137) (1 : Int32) dX11_beds_137 ci_1 ?_
  refine pf_RX11_351 (pc := 138) [_] 0 rfl hk0 rfl rfl dX11_beds_138 ?_
  refine v_aload_n (pc := 141) 0 dX11_beds_141 rfl ?_
  refine v_iload_n (pc := 142) 1 dX11_beds_142 rfl ?_
  refine pf_RX11_354 (pc := 143) [_] 0 rfl hk0 rfl dX11_beds_143 ?_
  refine v_iload_n (pc := 146) 1 dX11_beds_146 rfl ?_
  replace hf := bd_some hf; obtain ⟨r29, h30, hf⟩ := hf
  refine V_callS (pc := 147) (us1 := [_]) [] (kX11_bits  h30) rfl rfl rfl rfl wm_RX11_336 md_X11_bits (Nat.le_of_ble_eq_true rfl) (Nat.le_of_ble_eq_true rfl) rfl rfl (Nat.le_of_ble_eq_true rfl) dX11_beds_147 ?_
  have hf2 := Option.some.inj hf; subst hf2
  exact V_iret (pc := 150) hF dX11_beds_150
set_option maxRecDepth 20000 in
theorem kX11_bedded {G : Wc} {o : Nat} {S : Ob}  {r : Int32 × Ob} (hk0 : kd o = 10) (hf : pX11_bedded S   = some r) : Cn yX11_bedded cX11_bedded 1 (some .int) 1 60 G [.ref (wA G o 0)] [(o, S)] [(o, r.2)] (some (.int r.1)) := by
  refine V_method [(0, .ref (wA G o 0))] (by decide) rfl (Nat.le_of_ble_eq_true rfl) rfl (fun Γ hF => ?_)
  unfold pX11_bedded at hf
  refine v_aload_n (pc := 0) 0 dX11_bedded_0 rfl ?_
  refine v_iconst (pc := 1) (0 : Int32) dX11_bedded_1 ci_0 ?_
  refine pf_RX11_1 (pc := 2) [_] 0 rfl hk0 rfl dX11_bedded_2 ?_
  refine v_aload_n (pc := 5) 0 dX11_bedded_5 rfl ?_
  refine gf_RX11_351 (pc := 6) 0 rfl hk0 dX11_bedded_6 ?_
  refine v_if_eq (pc := 9) 19 dX11_bedded_9 (by decide) (fun c1 => ?_) (fun c1 => ?_)
  · replace hf := it_t c1 hf
    refine v_iconst (pc := 19) (-1 : Int32) dX11_bedded_19 ci_m1 ?_
    have hf2 := Option.some.inj hf; subst hf2
    exact V_iret (pc := 20) hF dX11_bedded_20
  · replace hf := it_f c1 hf
    refine v_aload_n (pc := 12) 0 dX11_bedded_12 rfl ?_
    refine gf_RX11_354 (pc := 13) 0 rfl hk0 dX11_bedded_13 ?_
    refine v_goto (pc := 16) 20 dX11_bedded_16 (by decide) ?_
    have hf2 := Option.some.inj hf; subst hf2
    exact V_iret (pc := 20) hF dX11_bedded_20
set_option maxRecDepth 20000 in
theorem wX11_isFit_l24 {G : Wc} {Γ : Cx} {o : Nat} {S : Ob} {l1 : Int32} (hk0 : kd o = 10) : ∀ (n : Nat) {l2 : Int32} {l3 : Int32} {r : Int32}, pX11_isFit_l24  S l1 n l2 l3 = some r → V cX11_isFit RX11 2 82 4 G Γ [(o, S)] 69 [(2, .int r)] [] → V cX11_isFit RX11 2 82 4 G Γ [(o, S)] 24 [(0, .ref (wA G o 0)), (1, .int l1), (2, .int l2), (3, .int l3)] [] := by
  intro n
  induction n with
  | zero => intro l2 l3 r hf hx; unfold pX11_isFit_l24 at hf; cases hf
  | succ n ih =>
    intro l2 l3 r hf hx
    have hrec : ∀ {l2 : Int32} {l3 : Int32}, pX11_isFit_l24  S l1 n l2 l3 = some r → V cX11_isFit RX11 2 82 4 G Γ [(o, S)] 24 [(0, .ref (wA G o 0)), (1, .int l1), (2, .int l2), (3, .int l3)] [] := fun h => ih h hx
    clear ih
    unfold pX11_isFit_l24 at hf
    refine v_iload_n (pc := 24) 3 dX11_isFit_24 rfl ?_
    refine v_aload_n (pc := 25) 0 dX11_isFit_25 rfl ?_
    refine gf_RX11_18 (pc := 26) 0 rfl hk0 dX11_isFit_26 ?_
    refine v_icmp_ge (pc := 29) 69 dX11_isFit_29 (by decide) (fun c3 => ?_) (fun c3 => ?_)
    · replace hf := it_t c3 hf
      have hf2 := Option.some.inj hf; subst hf2
      exact V_sub [2] rfl hx
    · replace hf := it_f c3 hf
      refine v_iload_n (pc := 32) 2 dX11_isFit_32 rfl ?_
      refine v_if_eq (pc := 33) 69 dX11_isFit_33 (by decide) (fun c4 => ?_) (fun c4 => ?_)
      · replace hf := it_t c4 hf
        have hf2 := Option.some.inj hf; subst hf2
        exact V_sub [2] rfl hx
      · replace hf := it_f c4 hf
        refine v_aload_n (pc := 36) 0 dX11_isFit_36 rfl ?_
        refine v_iload_n (pc := 37) 1 dX11_isFit_37 rfl ?_
        refine v_aload_n (pc := 38) 0 dX11_isFit_38 rfl ?_
        refine gf_RX11_18 (pc := 39) 0 rfl hk0 dX11_isFit_39 ?_
        refine v_iconst (pc := 42) (1 : Int32) dX11_isFit_42 ci_1 ?_
        refine v_isub (pc := 43) dX11_isFit_43 ?_
        refine v_iload_n (pc := 44) 3 dX11_isFit_44 rfl ?_
        refine v_isub (pc := 45) dX11_isFit_45 ?_
        replace hf := bd_some hf; obtain ⟨r5, h6, hf⟩ := hf
        refine V_call (pc := 46) (us1 := [_]) [0] 0 (kX11_fromOutside (o := o) hk0 h6) rfl rfl rfl rfl rfl hk0 (Nat.le_of_ble_eq_true rfl) rfl rfl rfl wm_RX11_245 md_X11_fromOutside (Nat.le_of_ble_eq_true rfl) (Nat.le_of_ble_eq_true rfl) rfl rfl (Nat.le_of_ble_eq_true rfl) dX11_isFit_46 ?_
        refine v_aload_n (pc := 49) 0 dX11_isFit_49 rfl ?_
        refine v_iload_n (pc := 50) 3 dX11_isFit_50 rfl ?_
        replace hf := bd_some hf; obtain ⟨r7, h8, hf⟩ := hf
        refine V_call (pc := 51) (us1 := [_]) [0] 0 (kX11_octet (o := o) hk0 h8) rfl rfl rfl rfl rfl hk0 (Nat.le_of_ble_eq_true rfl) rfl rfl rfl wm_RX11_357 md_X11_octet (Nat.le_of_ble_eq_true rfl) (Nat.le_of_ble_eq_true rfl) rfl rfl (Nat.le_of_ble_eq_true rfl) dX11_isFit_51 ?_
        refine v_icmp_ne (pc := 54) 61 dX11_isFit_54 (by decide) (fun c9 => ?_) (fun c9 => ?_)
        · replace hf := it_f c9 hf
          refine v_iconst (pc := 61) (0 : Int32) dX11_isFit_61 ci_0 ?_
          refine v_istore_n (pc := 62) [(2, _), (0, _), (1, _), (3, _)] dX11_isFit_62 (Nat.le_of_ble_eq_true rfl) rfl ?_
          refine v_iinc (pc := 63) 3 (l3 + (1 : Int32)) [(3, _), (2, _), (0, _), (1, _)] dX11_isFit_63 rfl (congrArg (fun z => _ + z) ci_1) (Nat.le_of_ble_eq_true rfl) rfl ?_
          refine v_goto (pc := 66) 24 dX11_isFit_66 (by decide) ?_
          exact V_sub [2, 3, 1, 0] rfl (hrec hf)
        · replace hf := it_t c9 hf
          refine v_iconst (pc := 57) (1 : Int32) dX11_isFit_57 ci_1 ?_
          refine v_goto (pc := 58) 62 dX11_isFit_58 (by decide) ?_
          refine v_istore_n (pc := 62) [(2, _), (0, _), (1, _), (3, _)] dX11_isFit_62 (Nat.le_of_ble_eq_true rfl) rfl ?_
          refine v_iinc (pc := 63) 3 (l3 + (1 : Int32)) [(3, _), (2, _), (0, _), (1, _)] dX11_isFit_63 rfl (congrArg (fun z => _ + z) ci_1) (Nat.le_of_ble_eq_true rfl) rfl ?_
          refine v_goto (pc := 66) 24 dX11_isFit_66 (by decide) ?_
          exact V_sub [2, 3, 1, 0] rfl (hrec hf)
set_option maxRecDepth 20000 in
theorem wX11_isFit_j21 {G : Wc} {Γ : Cx} {o : Nat} {S : Ob} {l1 : Int32} {s0 : Int32} {r : Int32} (hk0 : kd o = 10) (hF : Fnl G Γ (some .boolean) (some (.int r)) (ov Γ.2.2.2 [(o, S)])) (hf : pX11_isFit_j21 S l1 s0 = some r) : V cX11_isFit RX11 2 82 4 G Γ [(o, S)] 21 [(0, .ref (wA G o 0)), (1, .int l1)] [.int s0] := by
  unfold pX11_isFit_j21 at hf
  refine v_istore_n (pc := 21) [(2, _), (0, _), (1, _)] dX11_isFit_21 (Nat.le_of_ble_eq_true rfl) rfl ?_
  refine v_iconst (pc := 22) (0 : Int32) dX11_isFit_22 ci_0 ?_
  refine v_istore_n (pc := 23) [(3, _), (2, _), (0, _), (1, _)] dX11_isFit_23 (Nat.le_of_ble_eq_true rfl) rfl ?_
  replace hf := bd_some hf; obtain ⟨r10, h11, hf⟩ := hf
  refine V_sub [2, 3, 1, 0] rfl (wX11_isFit_l24 hk0 fu h11 ?_)
  refine v_iload_n (pc := 69) 0 dX11_isFit_69 rfl ?_
  replace hf := gd_some hf; obtain ⟨g12, hf⟩ := hf
  have hf2 := Option.some.inj hf; subst hf2
  exact V_zret (pc := 70) hF g12 dX11_isFit_70
set_option maxRecDepth 20000 in
theorem kX11_isFit {G : Wc} {o : Nat} {S : Ob} {a : Int32} {r : Int32} (hk0 : kd o = 10) (hf : pX11_isFit S  a = some r) : Cn yX11_isFit cX11_isFit 4 (some .boolean) 2 82 G [.ref (wA G o 0), .int a] [(o, S)] [(o, S)] (some (.int r)) := by
  refine V_method [(0, .ref (wA G o 0)), (1, .int a)] (by decide) rfl (Nat.le_of_ble_eq_true rfl) rfl (fun Γ hF => ?_)
  unfold pX11_isFit at hf
  refine v_aload_n (pc := 0) 0 dX11_isFit_0 rfl ?_
  refine gf_RX11_33 (pc := 1) 0 rfl hk0 dX11_isFit_1 ?_
  refine v_bipush (pc := 4) (125 : Int32) dX11_isFit_4 cb_125 ?_
  refine v_iload_n (pc := 6) 1 dX11_isFit_6 rfl ?_
  refine v_iadd (pc := 7) dX11_isFit_7 ?_
  replace hf := gd_some hf; obtain ⟨g1, hf⟩ := hf
  refine al_X11_6 (pc := 8) _ 0 rfl hk0 rfl g1 dX11_isFit_8 ?_
  refine v_aload_n (pc := 9) 0 dX11_isFit_9 rfl ?_
  refine gf_RX11_18 (pc := 10) 0 rfl hk0 dX11_isFit_10 ?_
  refine v_icmp_lt (pc := 13) 20 dX11_isFit_13 (by decide) (fun c2 => ?_) (fun c2 => ?_)
  · replace hf := it_t c2 hf
    refine v_iconst (pc := 20) (0 : Int32) dX11_isFit_20 ci_0 ?_
    exact V_sub [0, 1] rfl (wX11_isFit_j21 hk0 hF hf)
  · replace hf := it_f c2 hf
    refine v_iconst (pc := 16) (1 : Int32) dX11_isFit_16 ci_1 ?_
    refine v_goto (pc := 17) 21 dX11_isFit_17 (by decide) ?_
    exact V_sub [0, 1] rfl (wX11_isFit_j21 hk0 hF hf)
set_option maxRecDepth 20000 in
theorem wX11_leftBy_j60 {G : Wc} {Γ : Cx} {o : Nat} {S : Ob} {l1 : Int32} {l2 : Int32} {l3 : Int32} {l4 : Int32} {l5 : Int32} {l6 : Int32} {s0 : Int32} {r : Int32} (hk0 : kd o = 10) {rec : Int32 → Int32 → Option (Int32)} (hrec : ∀ {l5 : Int32} {l6 : Int32}, rec l5 l6 = some r → V cX11_leftBy RX11 2 82 7 G Γ [(o, S)] 22 [(0, .ref (wA G o 0)), (1, .int l1), (2, .int l2), (3, .int l3), (4, .int l4), (5, .int l5), (6, .int l6)] []) (hx : V cX11_leftBy RX11 2 82 7 G Γ [(o, S)] 70 [(0, .ref (wA G o 0)), (1, .int l1), (2, .int l2), (3, .int l3), (4, .int l4), (5, .int r)] []) (hf : pX11_leftBy_j60 rec S l1 l2 l3 l4 l5 l6 s0 = some r) : V cX11_leftBy RX11 2 82 7 G Γ [(o, S)] 60 [(0, .ref (wA G o 0)), (1, .int l1), (2, .int l2), (3, .int l3), (4, .int l4), (5, .int l5), (6, .int l6)] [.int s0] := by
  unfold pX11_leftBy_j60 at hf
  refine v_iconst (pc := 60) (0 : Int32) dX11_leftBy_60 ci_0 ?_
  refine v_iadd (pc := 61) dX11_leftBy_61 ?_
  refine v_istore (pc := 62) [(5, _), (0, _), (1, _), (2, _), (3, _), (4, _), (6, _)] dX11_leftBy_62 (Nat.le_of_ble_eq_true rfl) rfl ?_
  refine v_iinc (pc := 64) 6 (l6 + (1 : Int32)) [(6, _), (5, _), (0, _), (1, _), (2, _), (3, _), (4, _)] dX11_leftBy_64 rfl (congrArg (fun z => _ + z) ci_1) (Nat.le_of_ble_eq_true rfl) rfl ?_
  refine v_goto (pc := 67) 22 dX11_leftBy_67 (by decide) ?_
  exact V_sub [2, 3, 4, 5, 6, 1, 0] rfl (hrec hf)
set_option maxRecDepth 20000 in
theorem wX11_leftBy_l22 {G : Wc} {Γ : Cx} {o : Nat} {S : Ob} {l1 : Int32} {l2 : Int32} {l3 : Int32} {l4 : Int32} (hk0 : kd o = 10) : ∀ (n : Nat) {l5 : Int32} {l6 : Int32} {r : Int32}, pX11_leftBy_l22  S l1 l2 l3 l4 n l5 l6 = some r → V cX11_leftBy RX11 2 82 7 G Γ [(o, S)] 70 [(0, .ref (wA G o 0)), (1, .int l1), (2, .int l2), (3, .int l3), (4, .int l4), (5, .int r)] [] → V cX11_leftBy RX11 2 82 7 G Γ [(o, S)] 22 [(0, .ref (wA G o 0)), (1, .int l1), (2, .int l2), (3, .int l3), (4, .int l4), (5, .int l5), (6, .int l6)] [] := by
  intro n
  induction n with
  | zero => intro l5 l6 r hf hx; unfold pX11_leftBy_l22 at hf; cases hf
  | succ n ih =>
    intro l5 l6 r hf hx
    have hrec : ∀ {l5 : Int32} {l6 : Int32}, pX11_leftBy_l22  S l1 l2 l3 l4 n l5 l6 = some r → V cX11_leftBy RX11 2 82 7 G Γ [(o, S)] 22 [(0, .ref (wA G o 0)), (1, .int l1), (2, .int l2), (3, .int l3), (4, .int l4), (5, .int l5), (6, .int l6)] [] := fun h => ih h hx
    clear ih
    unfold pX11_leftBy_l22 at hf
    refine v_iload (pc := 22) 6 dX11_leftBy_22 rfl ?_
    refine v_aload_n (pc := 24) 0 dX11_leftBy_24 rfl ?_
    refine gf_RX11_33 (pc := 25) 0 rfl hk0 dX11_leftBy_25 ?_
    refine v_iconst (pc := 28) (1 : Int32) dX11_leftBy_28 ci_1 ?_
    refine al_X11_6 (pc := 29) 1 0 rfl hk0 rfl ib_1_390 dX11_leftBy_29 ?_
    refine v_icmp_ge (pc := 30) 70 dX11_leftBy_30 (by decide) (fun c2 => ?_) (fun c2 => ?_)
    · replace hf := it_t c2 hf
      have hf2 := Option.some.inj hf; subst hf2
      exact V_sub [0, 1, 2, 3, 4, 5] rfl hx
    · replace hf := it_f c2 hf
      refine v_iload (pc := 33) 5 dX11_leftBy_33 rfl ?_
      refine v_iload_n (pc := 35) 1 dX11_leftBy_35 rfl ?_
      refine v_iload (pc := 36) 6 dX11_leftBy_36 rfl ?_
      replace hf := bd_some hf; obtain ⟨r3, h4, hf⟩ := hf
      refine V_callS (pc := 38) (us1 := [_]) [] (kX11_bitOf  h4) rfl rfl rfl rfl wm_RX11_333 md_X11_bitOf (Nat.le_of_ble_eq_true rfl) (Nat.le_of_ble_eq_true rfl) rfl rfl (Nat.le_of_ble_eq_true rfl) dX11_leftBy_38 ?_
      refine v_if_eq (pc := 41) 60 dX11_leftBy_41 (by decide) (fun c5 => ?_) (fun c5 => ?_)
      · replace hf := it_t c5 hf
        exact V_sub [0, 1, 2, 3, 4, 5, 6] rfl (wX11_leftBy_j60 hk0 hrec hx hf)
      · replace hf := it_f c5 hf
        refine v_aload_n (pc := 44) 0 dX11_leftBy_44 rfl ?_
        refine v_iload (pc := 45) 6 dX11_leftBy_45 rfl ?_
        refine v_iload_n (pc := 47) 2 dX11_leftBy_47 rfl ?_
        replace hf := bd_some hf; obtain ⟨r6, h7, hf⟩ := hf
        refine V_call (pc := 48) (us1 := [_]) [0] 0 (kX11_fromOutside (o := o) hk0 h7) rfl rfl rfl rfl rfl hk0 (Nat.le_of_ble_eq_true rfl) rfl rfl rfl wm_RX11_245 md_X11_fromOutside (Nat.le_of_ble_eq_true rfl) (Nat.le_of_ble_eq_true rfl) rfl rfl (Nat.le_of_ble_eq_true rfl) dX11_leftBy_48 ?_
        refine v_iload (pc := 51) 4 dX11_leftBy_51 rfl ?_
        refine v_icmp_ne (pc := 53) 60 dX11_leftBy_53 (by decide) (fun c8 => ?_) (fun c8 => ?_)
        · replace hf := it_f c8 hf
          exact V_sub [0, 1, 2, 3, 4, 5, 6] rfl (wX11_leftBy_j60 hk0 hrec hx hf)
        · replace hf := it_t c8 hf
          refine v_iconst (pc := 56) (1 : Int32) dX11_leftBy_56 ci_1 ?_
          refine v_goto (pc := 57) 61 dX11_leftBy_57 (by decide) ?_
          refine v_iadd (pc := 61) dX11_leftBy_61 ?_
          refine v_istore (pc := 62) [(5, _), (0, _), (1, _), (2, _), (3, _), (4, _), (6, _)] dX11_leftBy_62 (Nat.le_of_ble_eq_true rfl) rfl ?_
          refine v_iinc (pc := 64) 6 (l6 + (1 : Int32)) [(6, _), (5, _), (0, _), (1, _), (2, _), (3, _), (4, _)] dX11_leftBy_64 rfl (congrArg (fun z => _ + z) ci_1) (Nat.le_of_ble_eq_true rfl) rfl ?_
          refine v_goto (pc := 67) 22 dX11_leftBy_67 (by decide) ?_
          exact V_sub [2, 3, 4, 5, 6, 1, 0] rfl (hrec hf)
set_option maxRecDepth 20000 in
theorem wX11_leftBy_l5 {G : Wc} {Γ : Cx} {o : Nat} {S : Ob} {l1 : Int32} {l2 : Int32} (hk0 : kd o = 10) : ∀ (n : Nat) {l3 : Int32} {l4 : Int32} {r : Int32}, pX11_leftBy_l5  S l1 l2 n l3 l4 = some r → V cX11_leftBy RX11 2 82 7 G Γ [(o, S)] 83 [(3, .int r)] [] → V cX11_leftBy RX11 2 82 7 G Γ [(o, S)] 5 [(0, .ref (wA G o 0)), (1, .int l1), (2, .int l2), (3, .int l3), (4, .int l4)] [] := by
  intro n
  induction n with
  | zero => intro l3 l4 r hf hx; unfold pX11_leftBy_l5 at hf; cases hf
  | succ n ih =>
    intro l3 l4 r hf hx
    have hrec : ∀ {l3 : Int32} {l4 : Int32}, pX11_leftBy_l5  S l1 l2 n l3 l4 = some r → V cX11_leftBy RX11 2 82 7 G Γ [(o, S)] 5 [(0, .ref (wA G o 0)), (1, .int l1), (2, .int l2), (3, .int l3), (4, .int l4)] [] := fun h => ih h hx
    clear ih
    unfold pX11_leftBy_l5 at hf
    refine v_iload (pc := 5) 4 dX11_leftBy_5 rfl ?_
    refine v_aload_n (pc := 7) 0 dX11_leftBy_7 rfl ?_
    refine gf_RX11_33 (pc := 8) 0 rfl hk0 dX11_leftBy_8 ?_
    refine v_iconst (pc := 11) (0 : Int32) dX11_leftBy_11 ci_0 ?_
    refine al_X11_6 (pc := 12) 0 0 rfl hk0 rfl ib_0_390 dX11_leftBy_12 ?_
    refine v_icmp_ge (pc := 13) 83 dX11_leftBy_13 (by decide) (fun c1 => ?_) (fun c1 => ?_)
    · replace hf := it_t c1 hf
      have hf2 := Option.some.inj hf; subst hf2
      exact V_sub [3] rfl hx
    · replace hf := it_f c1 hf
      refine v_iconst (pc := 16) (0 : Int32) dX11_leftBy_16 ci_0 ?_
      refine v_istore (pc := 17) [(5, _), (0, _), (1, _), (2, _), (3, _), (4, _)] dX11_leftBy_17 (Nat.le_of_ble_eq_true rfl) rfl ?_
      refine v_iconst (pc := 19) (0 : Int32) dX11_leftBy_19 ci_0 ?_
      refine v_istore (pc := 20) [(6, _), (5, _), (0, _), (1, _), (2, _), (3, _), (4, _)] dX11_leftBy_20 (Nat.le_of_ble_eq_true rfl) rfl ?_
      replace hf := bd_some hf; obtain ⟨r9, h10, hf⟩ := hf
      refine V_sub [2, 3, 4, 5, 6, 1, 0] rfl (wX11_leftBy_l22 hk0 fu h10 ?_)
      refine v_iload_n (pc := 70) 3 dX11_leftBy_70 rfl ?_
      refine v_iload (pc := 71) 5 dX11_leftBy_71 rfl ?_
      replace hf := bd_some hf; obtain ⟨r11, h12, hf⟩ := hf
      refine V_callS (pc := 73) (us1 := [_]) [] (kX11_greater  h12) rfl rfl rfl rfl wm_RX11_360 md_X11_greater (Nat.le_of_ble_eq_true rfl) (Nat.le_of_ble_eq_true rfl) rfl rfl (Nat.le_of_ble_eq_true rfl) dX11_leftBy_73 ?_
      refine v_istore_n (pc := 76) [(3, _), (0, _), (1, _), (2, _), (4, _), (5, _)] dX11_leftBy_76 (Nat.le_of_ble_eq_true rfl) rfl ?_
      refine v_iinc (pc := 77) 4 (l4 + (1 : Int32)) [(4, _), (3, _), (0, _), (1, _), (2, _), (5, _)] dX11_leftBy_77 rfl (congrArg (fun z => _ + z) ci_1) (Nat.le_of_ble_eq_true rfl) rfl ?_
      refine v_goto (pc := 80) 5 dX11_leftBy_80 (by decide) ?_
      exact V_sub [2, 3, 4, 1, 0] rfl (hrec hf)
set_option maxRecDepth 20000 in
theorem kX11_leftBy {G : Wc} {o : Nat} {S : Ob} {a : Int32} {b : Int32} {r : Int32} (hk0 : kd o = 10) (hf : pX11_leftBy S  a b = some r) : Cn yX11_leftBy cX11_leftBy 7 (some .int) 2 82 G [.ref (wA G o 0), .int a, .int b] [(o, S)] [(o, S)] (some (.int r)) := by
  refine V_method [(0, .ref (wA G o 0)), (1, .int a), (2, .int b)] (by decide) rfl (Nat.le_of_ble_eq_true rfl) rfl (fun Γ hF => ?_)
  unfold pX11_leftBy at hf
  refine v_iconst (pc := 0) (0 : Int32) dX11_leftBy_0 ci_0 ?_
  refine v_istore_n (pc := 1) [(3, _), (0, _), (1, _), (2, _)] dX11_leftBy_1 (Nat.le_of_ble_eq_true rfl) rfl ?_
  refine v_iconst (pc := 2) (-1 : Int32) dX11_leftBy_2 ci_m1 ?_
  refine v_istore (pc := 3) [(4, _), (3, _), (0, _), (1, _), (2, _)] dX11_leftBy_3 (Nat.le_of_ble_eq_true rfl) rfl ?_
  replace hf := bd_some hf; obtain ⟨r13, h14, hf⟩ := hf
  refine V_sub [2, 3, 4, 1, 0] rfl (wX11_leftBy_l5 hk0 fu h14 ?_)
  refine v_iload_n (pc := 83) 0 dX11_leftBy_83 rfl ?_
  have hf2 := Option.some.inj hf; subst hf2
  exact V_iret (pc := 84) hF dX11_leftBy_84
set_option maxRecDepth 20000 in
theorem wX11_fits_l61 {G : Wc} {Γ : Cx} {o : Nat} {S : Ob} (hk0 : kd o = 10) : ∀ (n : Nat) {l1 : Int32} {l2 : Int32} {r : Int32}, pX11_fits_l61  S n l1 l2 = some r → V cX11_fits RX11 3 108 3 G Γ [(o, S)] 95 [(0, .ref (wA G o 0)), (1, .int r)] [] → V cX11_fits RX11 3 108 3 G Γ [(o, S)] 61 [(0, .ref (wA G o 0)), (1, .int l1), (2, .int l2)] [] := by
  intro n
  induction n with
  | zero => intro l1 l2 r hf hx; unfold pX11_fits_l61 at hf; cases hf
  | succ n ih =>
    intro l1 l2 r hf hx
    have hrec : ∀ {l1 : Int32} {l2 : Int32}, pX11_fits_l61  S n l1 l2 = some r → V cX11_fits RX11 3 108 3 G Γ [(o, S)] 61 [(0, .ref (wA G o 0)), (1, .int l1), (2, .int l2)] [] := fun h => ih h hx
    clear ih
    unfold pX11_fits_l61 at hf
    refine v_iload_n (pc := 61) 2 dX11_fits_61 rfl ?_
    refine v_aload_n (pc := 62) 0 dX11_fits_62 rfl ?_
    refine gf_RX11_33 (pc := 63) 0 rfl hk0 dX11_fits_63 ?_
    refine v_iconst (pc := 66) (1 : Int32) dX11_fits_66 ci_1 ?_
    refine al_X11_6 (pc := 67) 1 0 rfl hk0 rfl ib_1_390 dX11_fits_67 ?_
    refine v_icmp_ge (pc := 68) 95 dX11_fits_68 (by decide) (fun c7 => ?_) (fun c7 => ?_)
    · replace hf := it_t c7 hf
      have hf2 := Option.some.inj hf; subst hf2
      exact V_sub [0, 1] rfl hx
    · replace hf := it_f c7 hf
      refine v_iload_n (pc := 71) 1 dX11_fits_71 rfl ?_
      refine v_aload_n (pc := 72) 0 dX11_fits_72 rfl ?_
      refine v_iload_n (pc := 73) 2 dX11_fits_73 rfl ?_
      replace hf := bd_some hf; obtain ⟨r8, h9, hf⟩ := hf
      refine V_call (pc := 74) (us1 := [_]) [0] 0 (kX11_isFit (o := o) hk0 h9) rfl rfl rfl rfl rfl hk0 (Nat.le_of_ble_eq_true rfl) rfl rfl rfl wm_RX11_363 md_X11_isFit (Nat.le_of_ble_eq_true rfl) (Nat.le_of_ble_eq_true rfl) rfl rfl (Nat.le_of_ble_eq_true rfl) dX11_fits_74 ?_
      refine v_if_eq (pc := 77) 86 dX11_fits_77 (by decide) (fun c10 => ?_) (fun c10 => ?_)
      · replace hf := it_t c10 hf
        refine v_iconst (pc := 86) (0 : Int32) dX11_fits_86 ci_0 ?_
        refine v_ior (pc := 87) dX11_fits_87 ?_
        refine v_istore_n (pc := 88) [(1, _), (0, _), (2, _)] dX11_fits_88 (Nat.le_of_ble_eq_true rfl) rfl ?_
        refine v_iinc (pc := 89) 2 (l2 + (1 : Int32)) [(2, _), (1, _), (0, _)] dX11_fits_89 rfl (congrArg (fun z => _ + z) ci_1) (Nat.le_of_ble_eq_true rfl) rfl ?_
        refine v_goto (pc := 92) 61 dX11_fits_92 (by decide) ?_
        exact V_sub [2, 1, 0] rfl (hrec hf)
      · replace hf := it_f c10 hf
        refine v_iconst (pc := 80) (1 : Int32) dX11_fits_80 ci_1 ?_
        refine v_iload_n (pc := 81) 2 dX11_fits_81 rfl ?_
        refine v_ishl (pc := 82) dX11_fits_82 ?_
        refine v_goto (pc := 83) 87 dX11_fits_83 (by decide) ?_
        refine v_ior (pc := 87) dX11_fits_87 ?_
        refine v_istore_n (pc := 88) [(1, _), (0, _), (2, _)] dX11_fits_88 (Nat.le_of_ble_eq_true rfl) rfl ?_
        refine v_iinc (pc := 89) 2 (l2 + (1 : Int32)) [(2, _), (1, _), (0, _)] dX11_fits_89 rfl (congrArg (fun z => _ + z) ci_1) (Nat.le_of_ble_eq_true rfl) rfl ?_
        refine v_goto (pc := 92) 61 dX11_fits_92 (by decide) ?_
        exact V_sub [2, 1, 0] rfl (hrec hf)
set_option maxRecDepth 20000 in
theorem wX11_fits_l113 {G : Wc} {Γ : Cx} {o : Nat} {l1 : Int32} (hk0 : kd o = 10) : ∀ (n : Nat) {l2 : Int32} {S : Ob} {r : Ob}, pX11_fits_l113  l1 n l2 S = some r → V cX11_fits RX11 3 108 3 G Γ [(o, r)] 148 [(1, .int l1)] [] → V cX11_fits RX11 3 108 3 G Γ [(o, S)] 113 [(0, .ref (wA G o 0)), (1, .int l1), (2, .int l2)] [] := by
  intro n
  induction n with
  | zero => intro l2 S r hf hx; unfold pX11_fits_l113 at hf; cases hf
  | succ n ih =>
    intro l2 S r hf hx
    have hrec : ∀ {l2 : Int32} {S : Ob}, pX11_fits_l113  l1 n l2 S = some r → V cX11_fits RX11 3 108 3 G Γ [(o, S)] 113 [(0, .ref (wA G o 0)), (1, .int l1), (2, .int l2)] [] := fun h => ih h hx
    clear ih
    unfold pX11_fits_l113 at hf
    refine v_iload_n (pc := 113) 2 dX11_fits_113 rfl ?_
    refine v_bipush (pc := 114) (8 : Int32) dX11_fits_114 cb_8 ?_
    refine v_icmp_ge (pc := 116) 148 dX11_fits_116 (by decide) (fun c14 => ?_) (fun c14 => ?_)
    · replace hf := it_t c14 hf
      have hf2 := Option.some.inj hf; subst hf2
      exact V_sub [1] rfl hx
    · replace hf := it_f c14 hf
      refine v_aload_n (pc := 119) 0 dX11_fits_119 rfl ?_
      refine v_iload_n (pc := 120) 1 dX11_fits_120 rfl ?_
      refine v_iload_n (pc := 121) 2 dX11_fits_121 rfl ?_
      replace hf := bd_some hf; obtain ⟨r15, h16, hf⟩ := hf
      refine V_call (pc := 122) (us1 := [_]) [0] 0 (kX11_leftBy (o := o) hk0 h16) rfl rfl rfl rfl rfl hk0 (Nat.le_of_ble_eq_true rfl) rfl rfl rfl wm_RX11_372 md_X11_leftBy (Nat.le_of_ble_eq_true rfl) (Nat.le_of_ble_eq_true rfl) rfl rfl (Nat.le_of_ble_eq_true rfl) dX11_fits_122 ?_
      refine v_aload_n (pc := 125) 0 dX11_fits_125 rfl ?_
      refine v_iload_n (pc := 126) 1 dX11_fits_126 rfl ?_
      refine v_aload_n (pc := 127) 0 dX11_fits_127 rfl ?_
      refine gf_RX11_369 (pc := 128) 0 rfl hk0 dX11_fits_128 ?_
      replace hf := bd_some hf; obtain ⟨r17, h18, hf⟩ := hf
      refine V_call (pc := 131) (us1 := [_]) [0] 0 (kX11_leftBy (o := o) hk0 h18) rfl rfl rfl rfl rfl hk0 (Nat.le_of_ble_eq_true rfl) rfl rfl rfl wm_RX11_372 md_X11_leftBy (Nat.le_of_ble_eq_true rfl) (Nat.le_of_ble_eq_true rfl) rfl rfl (Nat.le_of_ble_eq_true rfl) dX11_fits_131 ?_
      refine v_icmp_ge (pc := 134) 142 dX11_fits_134 (by decide) (fun c19 => ?_) (fun c19 => ?_)
      · replace hf := it_t c19 hf
        refine v_iinc (pc := 142) 2 (l2 + (1 : Int32)) [(2, _), (0, _), (1, _)] dX11_fits_142 rfl (congrArg (fun z => _ + z) ci_1) (Nat.le_of_ble_eq_true rfl) rfl ?_
        refine v_goto (pc := 145) 113 dX11_fits_145 (by decide) ?_
        exact V_sub [1, 2, 0] rfl (hrec hf)
      · replace hf := it_f c19 hf
        refine v_aload_n (pc := 137) 0 dX11_fits_137 rfl ?_
        refine v_iload_n (pc := 138) 2 dX11_fits_138 rfl ?_
        refine pf_RX11_369 (pc := 139) [_] 0 rfl hk0 rfl dX11_fits_139 ?_
        refine v_iinc (pc := 142) 2 (l2 + (1 : Int32)) [(2, _), (0, _), (1, _)] dX11_fits_142 rfl (congrArg (fun z => _ + z) ci_1) (Nat.le_of_ble_eq_true rfl) rfl ?_
        refine v_goto (pc := 145) 113 dX11_fits_145 (by decide) ?_
        exact V_sub [1, 2, 0] rfl (hrec hf)
set_option maxRecDepth 20000 in
theorem wX11_fits_l29 {G : Wc} {Γ : Cx} {o : Nat} {S : Ob} {r : Int32 × Ob} (hk0 : kd o = 10) (hF : Fnl G Γ (some .int) (some (.int r.1)) (ov Γ.2.2.2 [(o, r.2)])) : ∀ (n : Nat) {l1 : Int32}, pX11_fits_l29  S n l1 = some r → V cX11_fits RX11 3 108 3 G Γ [(o, S)] 29 [(0, .ref (wA G o 0)), (1, .int l1)] [] := by
  intro n
  induction n with
  | zero => intro l1 hf; unfold pX11_fits_l29 at hf; cases hf
  | succ n ih =>
    intro l1 hf
    have hrec : ∀ {l1 : Int32}, pX11_fits_l29  S n l1 = some r → V cX11_fits RX11 3 108 3 G Γ [(o, S)] 29 [(0, .ref (wA G o 0)), (1, .int l1)] [] := fun h => ih h
    clear ih
    unfold pX11_fits_l29 at hf
    refine v_iload_n (pc := 29) 1 dX11_fits_29 rfl ?_
    refine v_aload_n (pc := 30) 0 dX11_fits_30 rfl ?_
    refine gf_RX11_18 (pc := 31) 0 rfl hk0 dX11_fits_31 ?_
    refine v_icmp_ge (pc := 34) 57 dX11_fits_34 (by decide) (fun c6 => ?_) (fun c6 => ?_)
    · replace hf := it_t c6 hf
      refine v_iconst (pc := 57) (0 : Int32) dX11_fits_57 ci_0 ?_
      refine v_istore_n (pc := 58) [(1, _), (0, _)] dX11_fits_58 (Nat.le_of_ble_eq_true rfl) rfl ?_
      refine v_iconst (pc := 59) (0 : Int32) dX11_fits_59 ci_0 ?_
      refine v_istore_n (pc := 60) [(2, _), (1, _), (0, _)] dX11_fits_60 (Nat.le_of_ble_eq_true rfl) rfl ?_
      replace hf := bd_some hf; obtain ⟨r11, h12, hf⟩ := hf
      refine V_sub [2, 1, 0] rfl (wX11_fits_l61 hk0 fu h12 ?_)
      refine v_iload_n (pc := 95) 1 dX11_fits_95 rfl ?_
      refine v_if_ne (pc := 96) 101 dX11_fits_96 (by decide) (fun c13 => ?_) (fun c13 => ?_)
      · replace hf := it_f c13 hf
        refine v_aload_n (pc := 101) 0 dX11_fits_101 rfl ?_
        refine v_iconst (pc := 102) (1 : Int32) dX11_fits_102 ci_1 ?_
        refine pf_RX11_366 (pc := 103) [_] 0 rfl hk0 rfl rfl dX11_fits_103 ?_
        refine v_aload_n (pc := 106) 0 dX11_fits_106 rfl ?_
        refine v_iconst (pc := 107) (0 : Int32) dX11_fits_107 ci_0 ?_
        refine pf_RX11_369 (pc := 108) [_] 0 rfl hk0 rfl dX11_fits_108 ?_
        refine v_iconst (pc := 111) (1 : Int32) dX11_fits_111 ci_1 ?_
        refine v_istore_n (pc := 112) [(2, _), (0, _), (1, _)] dX11_fits_112 (Nat.le_of_ble_eq_true rfl) rfl ?_
        replace hf := bd_some hf; obtain ⟨r20, h21, hf⟩ := hf
        refine V_sub [1, 2, 0] rfl (wX11_fits_l113 hk0 fu h21 ?_)
        refine v_iload_n (pc := 148) 0 dX11_fits_148 rfl ?_
        have hf2 := Option.some.inj hf; subst hf2
        exact V_iret (pc := 149) hF dX11_fits_149
      · replace hf := it_t c13 hf
        refine v_iconst (pc := 99) (0 : Int32) dX11_fits_99 ci_0 ?_
        have hf2 := Option.some.inj hf; subst hf2
        exact V_iret (pc := 100) hF dX11_fits_100
    · replace hf := it_f c6 hf
      refine v_aload_n (pc := 37) 0 dX11_fits_37 rfl ?_
      refine v_aload_n (pc := 38) 0 dX11_fits_38 rfl ?_
      refine v_iload_n (pc := 39) 1 dX11_fits_39 rfl ?_
      replace hf := bd_some hf; obtain ⟨r22, h23, hf⟩ := hf
      refine V_call (pc := 40) (us1 := [_]) [0] 0 (kX11_octet (o := o) hk0 h23) rfl rfl rfl rfl rfl hk0 (Nat.le_of_ble_eq_true rfl) rfl rfl rfl wm_RX11_357 md_X11_octet (Nat.le_of_ble_eq_true rfl) (Nat.le_of_ble_eq_true rfl) rfl rfl (Nat.le_of_ble_eq_true rfl) dX11_fits_40 ?_
      replace hf := bd_some hf; obtain ⟨r24, h25, hf⟩ := hf
      refine V_call (pc := 43) (us1 := [_]) [0] 0 (kX11_isThing (o := o) hk0 h25) rfl rfl rfl rfl rfl hk0 (Nat.le_of_ble_eq_true rfl) rfl rfl rfl wm_RX11_274 md_X11_isThing (Nat.le_of_ble_eq_true rfl) (Nat.le_of_ble_eq_true rfl) rfl rfl (Nat.le_of_ble_eq_true rfl) dX11_fits_43 ?_
      refine v_if_ne (pc := 46) 51 dX11_fits_46 (by decide) (fun c26 => ?_) (fun c26 => ?_)
      · replace hf := it_f c26 hf
        refine v_iinc (pc := 51) 1 (l1 + (1 : Int32)) [(1, _), (0, _)] dX11_fits_51 rfl (congrArg (fun z => _ + z) ci_1) (Nat.le_of_ble_eq_true rfl) rfl ?_
        refine v_goto (pc := 54) 29 dX11_fits_54 (by decide) ?_
        exact V_sub [1, 0] rfl (hrec hf)
      · replace hf := it_t c26 hf
        refine v_iconst (pc := 49) (-1 : Int32) dX11_fits_49 ci_m1 ?_
        have hf2 := Option.some.inj hf; subst hf2
        exact V_iret (pc := 50) hF dX11_fits_50
set_option maxRecDepth 20000 in
theorem kX11_fits {G : Wc} {o : Nat} {S : Ob}  {r : Int32 × Ob} (hk0 : kd o = 10) (hf : pX11_fits S   = some r) : Cn yX11_fits cX11_fits 3 (some .int) 3 108 G [.ref (wA G o 0)] [(o, S)] [(o, r.2)] (some (.int r.1)) := by
  refine V_method [(0, .ref (wA G o 0))] (by decide) rfl (Nat.le_of_ble_eq_true rfl) rfl (fun Γ hF => ?_)
  unfold pX11_fits at hf
  refine v_aload_n (pc := 0) 0 dX11_fits_0 rfl ?_
  refine v_iconst (pc := 1) (0 : Int32) dX11_fits_1 ci_0 ?_
  refine pf_RX11_1 (pc := 2) [_] 0 rfl hk0 rfl dX11_fits_2 ?_
  refine v_aload_n (pc := 5) 0 dX11_fits_5 rfl ?_
  refine v_sipush (pc := 6) (940 : Int32) dX11_fits_6 cs_940 ?_
  replace hf := bd_some hf; obtain ⟨r1, h2, hf⟩ := hf
  refine V_call (pc := 9) (us1 := [_]) [0] 0 (kX11_taken (o := o) hk0 h2) rfl rfl rfl rfl rfl hk0 (Nat.le_of_ble_eq_true rfl) rfl rfl rfl wm_RX11_230 md_X11_taken (Nat.le_of_ble_eq_true rfl) (Nat.le_of_ble_eq_true rfl) rfl rfl (Nat.le_of_ble_eq_true rfl) dX11_fits_9 ?_
  refine v_aload_n (pc := 12) 0 dX11_fits_12 rfl ?_
  refine gf_RX11_18 (pc := 13) 0 rfl hk0 dX11_fits_13 ?_
  refine v_iconst (pc := 16) (1 : Int32) dX11_fits_16 ci_1 ?_
  refine v_bipush (pc := 17) (8 : Int32) dX11_fits_17 cb_8 ?_
  replace hf := bd_some hf; obtain ⟨r3, h4, hf⟩ := hf
  refine V_callS (pc := 19) (us1 := [_]) [] (kX11_isIn  h4) rfl rfl rfl rfl wm_RX11_176 md_X11_isIn (Nat.le_of_ble_eq_true rfl) (Nat.le_of_ble_eq_true rfl) rfl rfl (Nat.le_of_ble_eq_true rfl) dX11_fits_19 ?_
  refine v_if_ne (pc := 22) 27 dX11_fits_22 (by decide) (fun c5 => ?_) (fun c5 => ?_)
  · replace hf := it_f c5 hf
    refine v_iconst (pc := 27) (0 : Int32) dX11_fits_27 ci_0 ?_
    refine v_istore_n (pc := 28) [(1, _), (0, _)] dX11_fits_28 (Nat.le_of_ble_eq_true rfl) rfl ?_
    exact V_sub [1, 0] rfl (wX11_fits_l29 hk0 hF fu hf)
  · replace hf := it_t c5 hf
    refine v_iconst (pc := 25) (-1 : Int32) dX11_fits_25 ci_m1 ?_
    have hf2 := Option.some.inj hf; subst hf2
    exact V_iret (pc := 26) hF dX11_fits_26
set_option maxRecDepth 20000 in
theorem kX11_ask {G : Wc} {o : Nat} {S : Ob}  {r : Int32 × Ob} (hk0 : kd o = 10) (hf : pX11_ask S   = some r) : Cn yX11_ask cX11_ask 1 (some .int) 1 60 G [.ref (wA G o 0)] [(o, S)] [(o, r.2)] (some (.int r.1)) := by
  refine V_method [(0, .ref (wA G o 0))] (by decide) rfl (Nat.le_of_ble_eq_true rfl) rfl (fun Γ hF => ?_)
  unfold pX11_ask at hf
  refine v_aload_n (pc := 0) 0 dX11_ask_0 rfl ?_
  refine v_iconst (pc := 1) (0 : Int32) dX11_ask_1 ci_0 ?_
  refine pf_RX11_1 (pc := 2) [_] 0 rfl hk0 rfl dX11_ask_2 ?_
  refine v_aload_n (pc := 5) 0 dX11_ask_5 rfl ?_
  refine gf_RX11_366 (pc := 6) 0 rfl hk0 dX11_ask_6 ?_
  refine v_if_eq (pc := 9) 19 dX11_ask_9 (by decide) (fun c1 => ?_) (fun c1 => ?_)
  · replace hf := it_t c1 hf
    refine v_iconst (pc := 19) (-1 : Int32) dX11_ask_19 ci_m1 ?_
    have hf2 := Option.some.inj hf; subst hf2
    exact V_iret (pc := 20) hF dX11_ask_20
  · replace hf := it_f c1 hf
    refine v_aload_n (pc := 12) 0 dX11_ask_12 rfl ?_
    refine gf_RX11_369 (pc := 13) 0 rfl hk0 dX11_ask_13 ?_
    refine v_goto (pc := 16) 20 dX11_ask_16 (by decide) ?_
    have hf2 := Option.some.inj hf; subst hf2
    exact V_iret (pc := 20) hF dX11_ask_20
set_option maxRecDepth 20000 in
theorem wX11_isLike_l30 {G : Wc} {Γ : Cx} {o : Nat} {S : Ob} {l1 : Int32} {l2 : Int32} (hk0 : kd o = 10) : ∀ (n : Nat) {l3 : Int32} {l4 : Int32} {r : Int32}, pX11_isLike_l30  S l1 l2 n l3 l4 = some r → V cX11_isLike RX11 1 60 5 G Γ [(o, S)] 95 [(3, .int r)] [] → V cX11_isLike RX11 1 60 5 G Γ [(o, S)] 30 [(0, .ref (wA G o 0)), (1, .int l1), (2, .int l2), (3, .int l3), (4, .int l4)] [] := by
  intro n
  induction n with
  | zero => intro l3 l4 r hf hx; unfold pX11_isLike_l30 at hf; cases hf
  | succ n ih =>
    intro l3 l4 r hf hx
    have hrec : ∀ {l3 : Int32} {l4 : Int32}, pX11_isLike_l30  S l1 l2 n l3 l4 = some r → V cX11_isLike RX11 1 60 5 G Γ [(o, S)] 30 [(0, .ref (wA G o 0)), (1, .int l1), (2, .int l2), (3, .int l3), (4, .int l4)] [] := fun h => ih h hx
    clear ih
    unfold pX11_isLike_l30 at hf
    refine v_iload (pc := 30) 4 dX11_isLike_30 rfl ?_
    refine v_aload_n (pc := 32) 0 dX11_isLike_32 rfl ?_
    refine gf_RX11_33 (pc := 33) 0 rfl hk0 dX11_isLike_33 ?_
    refine v_bipush (pc := 36) (125 : Int32) dX11_isLike_36 cb_125 ?_
    refine v_iload_n (pc := 38) 1 dX11_isLike_38 rfl ?_
    refine v_iadd (pc := 39) dX11_isLike_39 ?_
    replace hf := gd_some hf; obtain ⟨g4, hf⟩ := hf
    refine al_X11_6 (pc := 40) _ 0 rfl hk0 rfl g4 dX11_isLike_40 ?_
    refine v_icmp_ge (pc := 41) 95 dX11_isLike_41 (by decide) (fun c5 => ?_) (fun c5 => ?_)
    · replace hf := it_t c5 hf
      have hf2 := Option.some.inj hf; subst hf2
      exact V_sub [3] rfl hx
    · replace hf := it_f c5 hf
      refine v_iload_n (pc := 44) 3 dX11_isLike_44 rfl ?_
      refine v_if_eq (pc := 45) 95 dX11_isLike_45 (by decide) (fun c6 => ?_) (fun c6 => ?_)
      · replace hf := it_t c6 hf
        have hf2 := Option.some.inj hf; subst hf2
        exact V_sub [3] rfl hx
      · replace hf := it_f c6 hf
        refine v_aload_n (pc := 48) 0 dX11_isLike_48 rfl ?_
        refine gf_RX11_33 (pc := 49) 0 rfl hk0 dX11_isLike_49 ?_
        refine v_sipush (pc := 52) (131 : Int32) dX11_isLike_52 cs_131 ?_
        refine v_bipush (pc := 55) (8 : Int32) dX11_isLike_55 cb_8 ?_
        refine v_iload_n (pc := 57) 1 dX11_isLike_57 rfl ?_
        refine v_imul (pc := 58) dX11_isLike_58 ?_
        refine v_iadd (pc := 59) dX11_isLike_59 ?_
        refine v_iload (pc := 60) 4 dX11_isLike_60 rfl ?_
        refine v_iadd (pc := 62) dX11_isLike_62 ?_
        replace hf := gd_some hf; obtain ⟨g7, hf⟩ := hf
        refine al_X11_6 (pc := 63) _ 0 rfl hk0 rfl g7 dX11_isLike_63 ?_
        refine v_aload_n (pc := 64) 0 dX11_isLike_64 rfl ?_
        refine gf_RX11_33 (pc := 65) 0 rfl hk0 dX11_isLike_65 ?_
        refine v_sipush (pc := 68) (131 : Int32) dX11_isLike_68 cs_131 ?_
        refine v_bipush (pc := 71) (8 : Int32) dX11_isLike_71 cb_8 ?_
        refine v_iload_n (pc := 73) 2 dX11_isLike_73 rfl ?_
        refine v_imul (pc := 74) dX11_isLike_74 ?_
        refine v_iadd (pc := 75) dX11_isLike_75 ?_
        refine v_iload (pc := 76) 4 dX11_isLike_76 rfl ?_
        refine v_iadd (pc := 78) dX11_isLike_78 ?_
        replace hf := gd_some hf; obtain ⟨g8, hf⟩ := hf
        refine al_X11_6 (pc := 79) _ 0 rfl hk0 rfl g8 dX11_isLike_79 ?_
        refine v_icmp_ne (pc := 80) 87 dX11_isLike_80 (by decide) (fun c9 => ?_) (fun c9 => ?_)
        · replace hf := it_f c9 hf
          refine v_iconst (pc := 87) (0 : Int32) dX11_isLike_87 ci_0 ?_
          refine v_istore_n (pc := 88) [(3, _), (0, _), (1, _), (2, _), (4, _)] dX11_isLike_88 (Nat.le_of_ble_eq_true rfl) rfl ?_
          refine v_iinc (pc := 89) 4 (l4 + (1 : Int32)) [(4, _), (3, _), (0, _), (1, _), (2, _)] dX11_isLike_89 rfl (congrArg (fun z => _ + z) ci_1) (Nat.le_of_ble_eq_true rfl) rfl ?_
          refine v_goto (pc := 92) 30 dX11_isLike_92 (by decide) ?_
          exact V_sub [2, 3, 4, 1, 0] rfl (hrec hf)
        · replace hf := it_t c9 hf
          refine v_iconst (pc := 83) (1 : Int32) dX11_isLike_83 ci_1 ?_
          refine v_goto (pc := 84) 88 dX11_isLike_84 (by decide) ?_
          refine v_istore_n (pc := 88) [(3, _), (0, _), (1, _), (2, _), (4, _)] dX11_isLike_88 (Nat.le_of_ble_eq_true rfl) rfl ?_
          refine v_iinc (pc := 89) 4 (l4 + (1 : Int32)) [(4, _), (3, _), (0, _), (1, _), (2, _)] dX11_isLike_89 rfl (congrArg (fun z => _ + z) ci_1) (Nat.le_of_ble_eq_true rfl) rfl ?_
          refine v_goto (pc := 92) 30 dX11_isLike_92 (by decide) ?_
          exact V_sub [2, 3, 4, 1, 0] rfl (hrec hf)
set_option maxRecDepth 20000 in
theorem wX11_isLike_j26 {G : Wc} {Γ : Cx} {o : Nat} {S : Ob} {l1 : Int32} {l2 : Int32} {s0 : Int32} {r : Int32} (hk0 : kd o = 10) (hF : Fnl G Γ (some .boolean) (some (.int r)) (ov Γ.2.2.2 [(o, S)])) (hf : pX11_isLike_j26 S l1 l2 s0 = some r) : V cX11_isLike RX11 1 60 5 G Γ [(o, S)] 26 [(0, .ref (wA G o 0)), (1, .int l1), (2, .int l2)] [.int s0] := by
  unfold pX11_isLike_j26 at hf
  refine v_istore_n (pc := 26) [(3, _), (0, _), (1, _), (2, _)] dX11_isLike_26 (Nat.le_of_ble_eq_true rfl) rfl ?_
  refine v_iconst (pc := 27) (0 : Int32) dX11_isLike_27 ci_0 ?_
  refine v_istore (pc := 28) [(4, _), (3, _), (0, _), (1, _), (2, _)] dX11_isLike_28 (Nat.le_of_ble_eq_true rfl) rfl ?_
  replace hf := bd_some hf; obtain ⟨r10, h11, hf⟩ := hf
  refine V_sub [2, 3, 4, 1, 0] rfl (wX11_isLike_l30 hk0 fu h11 ?_)
  refine v_iload_n (pc := 95) 0 dX11_isLike_95 rfl ?_
  replace hf := gd_some hf; obtain ⟨g12, hf⟩ := hf
  have hf2 := Option.some.inj hf; subst hf2
  exact V_zret (pc := 96) hF g12 dX11_isLike_96
set_option maxRecDepth 20000 in
theorem kX11_isLike {G : Wc} {o : Nat} {S : Ob} {a : Int32} {b : Int32} {r : Int32} (hk0 : kd o = 10) (hf : pX11_isLike S  a b = some r) : Cn yX11_isLike cX11_isLike 5 (some .boolean) 1 60 G [.ref (wA G o 0), .int a, .int b] [(o, S)] [(o, S)] (some (.int r)) := by
  refine V_method [(0, .ref (wA G o 0)), (1, .int a), (2, .int b)] (by decide) rfl (Nat.le_of_ble_eq_true rfl) rfl (fun Γ hF => ?_)
  unfold pX11_isLike at hf
  refine v_aload_n (pc := 0) 0 dX11_isLike_0 rfl ?_
  refine gf_RX11_33 (pc := 1) 0 rfl hk0 dX11_isLike_1 ?_
  refine v_bipush (pc := 4) (125 : Int32) dX11_isLike_4 cb_125 ?_
  refine v_iload_n (pc := 6) 1 dX11_isLike_6 rfl ?_
  refine v_iadd (pc := 7) dX11_isLike_7 ?_
  replace hf := gd_some hf; obtain ⟨g1, hf⟩ := hf
  refine al_X11_6 (pc := 8) _ 0 rfl hk0 rfl g1 dX11_isLike_8 ?_
  refine v_aload_n (pc := 9) 0 dX11_isLike_9 rfl ?_
  refine gf_RX11_33 (pc := 10) 0 rfl hk0 dX11_isLike_10 ?_
  refine v_bipush (pc := 13) (125 : Int32) dX11_isLike_13 cb_125 ?_
  refine v_iload_n (pc := 15) 2 dX11_isLike_15 rfl ?_
  refine v_iadd (pc := 16) dX11_isLike_16 ?_
  replace hf := gd_some hf; obtain ⟨g2, hf⟩ := hf
  refine al_X11_6 (pc := 17) _ 0 rfl hk0 rfl g2 dX11_isLike_17 ?_
  refine v_icmp_ne (pc := 18) 25 dX11_isLike_18 (by decide) (fun c3 => ?_) (fun c3 => ?_)
  · replace hf := it_f c3 hf
    refine v_iconst (pc := 25) (0 : Int32) dX11_isLike_25 ci_0 ?_
    exact V_sub [0, 1, 2] rfl (wX11_isLike_j26 hk0 hF hf)
  · replace hf := it_t c3 hf
    refine v_iconst (pc := 21) (1 : Int32) dX11_isLike_21 ci_1 ?_
    refine v_goto (pc := 22) 26 dX11_isLike_22 (by decide) ?_
    exact V_sub [0, 1, 2] rfl (wX11_isLike_j26 hk0 hF hf)
set_option maxRecDepth 20000 in
theorem wX11_like_j50 {G : Wc} {Γ : Cx} {o : Nat} {S : Ob} {l1 : Int32} {l2 : Int32} {l3 : Int32} {s0 : Int32} {r : Int32} (hk0 : kd o = 10) {rec : Int32 → Int32 → Option (Int32)} (hrec : ∀ {l2 : Int32} {l3 : Int32}, rec l2 l3 = some r → V cX11_like RX11 3 103 4 G Γ [(o, S)] 19 [(0, .ref (wA G o 0)), (1, .int l1), (2, .int l2), (3, .int l3)] []) (hx : V cX11_like RX11 3 103 4 G Γ [(o, S)] 59 [(2, .int r)] []) (hf : pX11_like_j50 rec S l1 l2 l3 s0 = some r) : V cX11_like RX11 3 103 4 G Γ [(o, S)] 50 [(0, .ref (wA G o 0)), (1, .int l1), (2, .int l2), (3, .int l3)] [.int s0] := by
  unfold pX11_like_j50 at hf
  refine v_iconst (pc := 50) (0 : Int32) dX11_like_50 ci_0 ?_
  refine v_ior (pc := 51) dX11_like_51 ?_
  refine v_istore_n (pc := 52) [(2, _), (0, _), (1, _), (3, _)] dX11_like_52 (Nat.le_of_ble_eq_true rfl) rfl ?_
  refine v_iinc (pc := 53) 3 (l3 + (1 : Int32)) [(3, _), (2, _), (0, _), (1, _)] dX11_like_53 rfl (congrArg (fun z => _ + z) ci_1) (Nat.le_of_ble_eq_true rfl) rfl ?_
  refine v_goto (pc := 56) 19 dX11_like_56 (by decide) ?_
  exact V_sub [2, 3, 1, 0] rfl (hrec hf)
set_option maxRecDepth 20000 in
theorem wX11_like_l19 {G : Wc} {Γ : Cx} {o : Nat} {S : Ob} {l1 : Int32} (hk0 : kd o = 10) : ∀ (n : Nat) {l2 : Int32} {l3 : Int32} {r : Int32}, pX11_like_l19  S l1 n l2 l3 = some r → V cX11_like RX11 3 103 4 G Γ [(o, S)] 59 [(2, .int r)] [] → V cX11_like RX11 3 103 4 G Γ [(o, S)] 19 [(0, .ref (wA G o 0)), (1, .int l1), (2, .int l2), (3, .int l3)] [] := by
  intro n
  induction n with
  | zero => intro l2 l3 r hf hx; unfold pX11_like_l19 at hf; cases hf
  | succ n ih =>
    intro l2 l3 r hf hx
    have hrec : ∀ {l2 : Int32} {l3 : Int32}, pX11_like_l19  S l1 n l2 l3 = some r → V cX11_like RX11 3 103 4 G Γ [(o, S)] 19 [(0, .ref (wA G o 0)), (1, .int l1), (2, .int l2), (3, .int l3)] [] := fun h => ih h hx
    clear ih
    unfold pX11_like_l19 at hf
    refine v_iload_n (pc := 19) 3 dX11_like_19 rfl ?_
    refine v_aload_n (pc := 20) 0 dX11_like_20 rfl ?_
    refine gf_RX11_33 (pc := 21) 0 rfl hk0 dX11_like_21 ?_
    refine v_iconst (pc := 24) (1 : Int32) dX11_like_24 ci_1 ?_
    refine al_X11_6 (pc := 25) 1 0 rfl hk0 rfl ib_1_390 dX11_like_25 ?_
    refine v_icmp_ge (pc := 26) 59 dX11_like_26 (by decide) (fun c4 => ?_) (fun c4 => ?_)
    · replace hf := it_t c4 hf
      have hf2 := Option.some.inj hf; subst hf2
      exact V_sub [2] rfl hx
    · replace hf := it_f c4 hf
      refine v_iload_n (pc := 29) 2 dX11_like_29 rfl ?_
      refine v_iload_n (pc := 30) 3 dX11_like_30 rfl ?_
      refine v_iload_n (pc := 31) 1 dX11_like_31 rfl ?_
      refine v_icmp_eq (pc := 32) 50 dX11_like_32 (by decide) (fun c5 => ?_) (fun c5 => ?_)
      · replace hf := it_t c5 hf
        exact V_sub [0, 1, 2, 3] rfl (wX11_like_j50 hk0 hrec hx hf)
      · replace hf := it_f c5 hf
        refine v_aload_n (pc := 35) 0 dX11_like_35 rfl ?_
        refine v_iload_n (pc := 36) 1 dX11_like_36 rfl ?_
        refine v_iload_n (pc := 37) 3 dX11_like_37 rfl ?_
        replace hf := bd_some hf; obtain ⟨r6, h7, hf⟩ := hf
        refine V_call (pc := 38) (us1 := [_]) [0] 0 (kX11_isLike (o := o) hk0 h7) rfl rfl rfl rfl rfl hk0 (Nat.le_of_ble_eq_true rfl) rfl rfl rfl wm_RX11_375 md_X11_isLike (Nat.le_of_ble_eq_true rfl) (Nat.le_of_ble_eq_true rfl) rfl rfl (Nat.le_of_ble_eq_true rfl) dX11_like_38 ?_
        refine v_if_eq (pc := 41) 50 dX11_like_41 (by decide) (fun c8 => ?_) (fun c8 => ?_)
        · replace hf := it_t c8 hf
          exact V_sub [0, 1, 2, 3] rfl (wX11_like_j50 hk0 hrec hx hf)
        · replace hf := it_f c8 hf
          refine v_iconst (pc := 44) (1 : Int32) dX11_like_44 ci_1 ?_
          refine v_iload_n (pc := 45) 3 dX11_like_45 rfl ?_
          refine v_ishl (pc := 46) dX11_like_46 ?_
          refine v_goto (pc := 47) 51 dX11_like_47 (by decide) ?_
          refine v_ior (pc := 51) dX11_like_51 ?_
          refine v_istore_n (pc := 52) [(2, _), (0, _), (1, _), (3, _)] dX11_like_52 (Nat.le_of_ble_eq_true rfl) rfl ?_
          refine v_iinc (pc := 53) 3 (l3 + (1 : Int32)) [(3, _), (2, _), (0, _), (1, _)] dX11_like_53 rfl (congrArg (fun z => _ + z) ci_1) (Nat.le_of_ble_eq_true rfl) rfl ?_
          refine v_goto (pc := 56) 19 dX11_like_56 (by decide) ?_
          exact V_sub [2, 3, 1, 0] rfl (hrec hf)
set_option maxRecDepth 20000 in
theorem kX11_like {G : Wc} {o : Nat} {S : Ob} {a : Int32} {r : Int32 × Ob} (hk0 : kd o = 10) (hf : pX11_like S  a = some r) : Cn yX11_like cX11_like 4 (some .int) 3 103 G [.ref (wA G o 0), .int a] [(o, S)] [(o, r.2)] (some (.int r.1)) := by
  refine V_method [(0, .ref (wA G o 0)), (1, .int a)] (by decide) rfl (Nat.le_of_ble_eq_true rfl) rfl (fun Γ hF => ?_)
  unfold pX11_like at hf
  refine v_aload_n (pc := 0) 0 dX11_like_0 rfl ?_
  refine v_iconst (pc := 1) (0 : Int32) dX11_like_1 ci_0 ?_
  refine pf_RX11_1 (pc := 2) [_] 0 rfl hk0 rfl dX11_like_2 ?_
  refine v_aload_n (pc := 5) 0 dX11_like_5 rfl ?_
  refine v_iload_n (pc := 6) 1 dX11_like_6 rfl ?_
  replace hf := bd_some hf; obtain ⟨r1, h2, hf⟩ := hf
  refine V_call (pc := 7) (us1 := [_]) [0] 0 (kX11_isPerson (o := o) hk0 h2) rfl rfl rfl rfl rfl hk0 (Nat.le_of_ble_eq_true rfl) rfl rfl rfl wm_RX11_254 md_X11_isPerson (Nat.le_of_ble_eq_true rfl) (Nat.le_of_ble_eq_true rfl) rfl rfl (Nat.le_of_ble_eq_true rfl) dX11_like_7 ?_
  refine v_if_ne (pc := 10) 15 dX11_like_10 (by decide) (fun c3 => ?_) (fun c3 => ?_)
  · replace hf := it_f c3 hf
    refine v_iconst (pc := 15) (0 : Int32) dX11_like_15 ci_0 ?_
    refine v_istore_n (pc := 16) [(2, _), (0, _), (1, _)] dX11_like_16 (Nat.le_of_ble_eq_true rfl) rfl ?_
    refine v_iconst (pc := 17) (0 : Int32) dX11_like_17 ci_0 ?_
    refine v_istore_n (pc := 18) [(3, _), (2, _), (0, _), (1, _)] dX11_like_18 (Nat.le_of_ble_eq_true rfl) rfl ?_
    replace hf := bd_some hf; obtain ⟨r9, h10, hf⟩ := hf
    refine V_sub [2, 3, 1, 0] rfl (wX11_like_l19 hk0 fu h10 ?_)
    refine v_iload_n (pc := 59) 0 dX11_like_59 rfl ?_
    have hf2 := Option.some.inj hf; subst hf2
    exact V_iret (pc := 60) hF dX11_like_60
  · replace hf := it_t c3 hf
    refine v_iconst (pc := 13) (-1 : Int32) dX11_like_13 ci_m1 ?_
    have hf2 := Option.some.inj hf; subst hf2
    exact V_iret (pc := 14) hF dX11_like_14
set_option maxRecDepth 20000 in
theorem wX11_hardest_l9 {G : Wc} {Γ : Cx} {o : Nat} {S : Ob} (hk0 : kd o = 10) : ∀ (n : Nat) {l1 : Int32} {l2 : Int32} {r : Int32}, pX11_hardest_l9  S n l1 l2 = some r → V cX11_hardest RX11 3 105 3 G Γ [(o, S)] 44 [(1, .int r)] [] → V cX11_hardest RX11 3 105 3 G Γ [(o, S)] 9 [(0, .ref (wA G o 0)), (1, .int l1), (2, .int l2)] [] := by
  intro n
  induction n with
  | zero => intro l1 l2 r hf hx; unfold pX11_hardest_l9 at hf; cases hf
  | succ n ih =>
    intro l1 l2 r hf hx
    have hrec : ∀ {l1 : Int32} {l2 : Int32}, pX11_hardest_l9  S n l1 l2 = some r → V cX11_hardest RX11 3 105 3 G Γ [(o, S)] 9 [(0, .ref (wA G o 0)), (1, .int l1), (2, .int l2)] [] := fun h => ih h hx
    clear ih
    unfold pX11_hardest_l9 at hf
    refine v_iload_n (pc := 9) 2 dX11_hardest_9 rfl ?_
    refine v_aload_n (pc := 10) 0 dX11_hardest_10 rfl ?_
    refine gf_RX11_33 (pc := 11) 0 rfl hk0 dX11_hardest_11 ?_
    refine v_iconst (pc := 14) (1 : Int32) dX11_hardest_14 ci_1 ?_
    refine al_X11_6 (pc := 15) 1 0 rfl hk0 rfl ib_1_390 dX11_hardest_15 ?_
    refine v_icmp_ge (pc := 16) 44 dX11_hardest_16 (by decide) (fun c1 => ?_) (fun c1 => ?_)
    · replace hf := it_t c1 hf
      have hf2 := Option.some.inj hf; subst hf2
      exact V_sub [1] rfl hx
    · replace hf := it_f c1 hf
      refine v_iload_n (pc := 19) 1 dX11_hardest_19 rfl ?_
      refine v_if_lt (pc := 20) 36 dX11_hardest_20 (by decide) (fun c2 => ?_) (fun c2 => ?_)
      · replace hf := it_t c2 hf
        refine v_iload_n (pc := 36) 2 dX11_hardest_36 rfl ?_
        refine v_istore_n (pc := 37) [(1, _), (0, _), (2, _)] dX11_hardest_37 (Nat.le_of_ble_eq_true rfl) rfl ?_
        refine v_iinc (pc := 38) 2 (l2 + (1 : Int32)) [(2, _), (1, _), (0, _)] dX11_hardest_38 rfl (congrArg (fun z => _ + z) ci_1) (Nat.le_of_ble_eq_true rfl) rfl ?_
        refine v_goto (pc := 41) 9 dX11_hardest_41 (by decide) ?_
        exact V_sub [2, 1, 0] rfl (hrec hf)
      · replace hf := it_f c2 hf
        refine v_aload_n (pc := 23) 0 dX11_hardest_23 rfl ?_
        refine v_iload_n (pc := 24) 2 dX11_hardest_24 rfl ?_
        replace hf := bd_some hf; obtain ⟨r3, h4, hf⟩ := hf
        refine V_call (pc := 25) (us1 := [_]) [0] 0 (kX11_holdsOf (o := o) hk0 h4) rfl rfl rfl rfl rfl hk0 (Nat.le_of_ble_eq_true rfl) rfl rfl rfl wm_RX11_268 md_X11_holdsOf (Nat.le_of_ble_eq_true rfl) (Nat.le_of_ble_eq_true rfl) rfl rfl (Nat.le_of_ble_eq_true rfl) dX11_hardest_25 ?_
        refine v_aload_n (pc := 28) 0 dX11_hardest_28 rfl ?_
        refine v_iload_n (pc := 29) 1 dX11_hardest_29 rfl ?_
        replace hf := bd_some hf; obtain ⟨r5, h6, hf⟩ := hf
        refine V_call (pc := 30) (us1 := [_]) [0] 0 (kX11_holdsOf (o := o) hk0 h6) rfl rfl rfl rfl rfl hk0 (Nat.le_of_ble_eq_true rfl) rfl rfl rfl wm_RX11_268 md_X11_holdsOf (Nat.le_of_ble_eq_true rfl) (Nat.le_of_ble_eq_true rfl) rfl rfl (Nat.le_of_ble_eq_true rfl) dX11_hardest_30 ?_
        refine v_icmp_le (pc := 33) 38 dX11_hardest_33 (by decide) (fun c7 => ?_) (fun c7 => ?_)
        · replace hf := it_t c7 hf
          refine v_iinc (pc := 38) 2 (l2 + (1 : Int32)) [(2, _), (0, _), (1, _)] dX11_hardest_38 rfl (congrArg (fun z => _ + z) ci_1) (Nat.le_of_ble_eq_true rfl) rfl ?_
          refine v_goto (pc := 41) 9 dX11_hardest_41 (by decide) ?_
          exact V_sub [1, 2, 0] rfl (hrec hf)
        · replace hf := it_f c7 hf
          refine v_iload_n (pc := 36) 2 dX11_hardest_36 rfl ?_
          refine v_istore_n (pc := 37) [(1, _), (0, _), (2, _)] dX11_hardest_37 (Nat.le_of_ble_eq_true rfl) rfl ?_
          refine v_iinc (pc := 38) 2 (l2 + (1 : Int32)) [(2, _), (1, _), (0, _)] dX11_hardest_38 rfl (congrArg (fun z => _ + z) ci_1) (Nat.le_of_ble_eq_true rfl) rfl ?_
          refine v_goto (pc := 41) 9 dX11_hardest_41 (by decide) ?_
          exact V_sub [2, 1, 0] rfl (hrec hf)
set_option maxRecDepth 20000 in
theorem kX11_hardest {G : Wc} {o : Nat} {S : Ob}  {r : Int32 × Ob} (hk0 : kd o = 10) (hf : pX11_hardest S   = some r) : Cn yX11_hardest cX11_hardest 3 (some .int) 3 105 G [.ref (wA G o 0)] [(o, S)] [(o, r.2)] (some (.int r.1)) := by
  refine V_method [(0, .ref (wA G o 0))] (by decide) rfl (Nat.le_of_ble_eq_true rfl) rfl (fun Γ hF => ?_)
  unfold pX11_hardest at hf
  refine v_aload_n (pc := 0) 0 dX11_hardest_0 rfl ?_
  refine v_iconst (pc := 1) (0 : Int32) dX11_hardest_1 ci_0 ?_
  refine pf_RX11_1 (pc := 2) [_] 0 rfl hk0 rfl dX11_hardest_2 ?_
  refine v_iconst (pc := 5) (-1 : Int32) dX11_hardest_5 ci_m1 ?_
  refine v_istore_n (pc := 6) [(1, _), (0, _)] dX11_hardest_6 (Nat.le_of_ble_eq_true rfl) rfl ?_
  refine v_iconst (pc := 7) (0 : Int32) dX11_hardest_7 ci_0 ?_
  refine v_istore_n (pc := 8) [(2, _), (1, _), (0, _)] dX11_hardest_8 (Nat.le_of_ble_eq_true rfl) rfl ?_
  replace hf := bd_some hf; obtain ⟨r8, h9, hf⟩ := hf
  refine V_sub [2, 1, 0] rfl (wX11_hardest_l9 hk0 fu h9 ?_)
  refine v_iload_n (pc := 44) 0 dX11_hardest_44 rfl ?_
  have hf2 := Option.some.inj hf; subst hf2
  exact V_iret (pc := 45) hF dX11_hardest_45
set_option maxRecDepth 20000 in
theorem wX11_mean_l56 {G : Wc} {Γ : Cx} {o : Nat} {S : Ob} {l1 : Int32} {l2 : Int32} (hk0 : kd o = 10) : ∀ (n : Nat) {l3 : Int32} {l4 : Int32} {r : Int32}, pX11_mean_l56  S l1 l2 n l3 l4 = some r → V cX11_mean RX11 4 128 6 G Γ [(o, S)] 77 [(0, .ref (wA G o 0)), (1, .int l1), (2, .int l2), (3, .int r)] [] → V cX11_mean RX11 4 128 6 G Γ [(o, S)] 56 [(0, .ref (wA G o 0)), (1, .int l1), (2, .int l2), (3, .int l3), (4, .int l4)] [] := by
  intro n
  induction n with
  | zero => intro l3 l4 r hf hx; unfold pX11_mean_l56 at hf; cases hf
  | succ n ih =>
    intro l3 l4 r hf hx
    have hrec : ∀ {l3 : Int32} {l4 : Int32}, pX11_mean_l56  S l1 l2 n l3 l4 = some r → V cX11_mean RX11 4 128 6 G Γ [(o, S)] 56 [(0, .ref (wA G o 0)), (1, .int l1), (2, .int l2), (3, .int l3), (4, .int l4)] [] := fun h => ih h hx
    clear ih
    unfold pX11_mean_l56 at hf
    refine v_iload (pc := 56) 4 dX11_mean_56 rfl ?_
    refine v_if_eq (pc := 58) 77 dX11_mean_58 (by decide) (fun c11 => ?_) (fun c11 => ?_)
    · replace hf := it_t c11 hf
      have hf2 := Option.some.inj hf; subst hf2
      exact V_sub [0, 1, 2, 3] rfl hx
    · replace hf := it_f c11 hf
      refine v_iload_n (pc := 61) 3 dX11_mean_61 rfl ?_
      refine v_iload (pc := 62) 4 dX11_mean_62 rfl ?_
      replace hf := gd_some hf; obtain ⟨g12, hf⟩ := hf
      refine v_irem (pc := 64) dX11_mean_64 (of_decide_eq_true g12) ?_
      refine v_istore (pc := 65) [(5, _), (0, _), (1, _), (2, _), (3, _), (4, _)] dX11_mean_65 (Nat.le_of_ble_eq_true rfl) rfl ?_
      refine v_iload (pc := 67) 5 dX11_mean_67 rfl ?_
      refine v_istore_n (pc := 69) [(3, _), (5, _), (0, _), (1, _), (2, _), (4, _)] dX11_mean_69 (Nat.le_of_ble_eq_true rfl) rfl ?_
      refine v_iload (pc := 70) 1 dX11_mean_70 rfl ?_
      refine v_istore (pc := 72) [(4, _), (3, _), (5, _), (0, _), (1, _), (2, _)] dX11_mean_72 (Nat.le_of_ble_eq_true rfl) rfl ?_
      refine v_goto (pc := 74) 56 dX11_mean_74 (by decide) ?_
      exact V_sub [3, 4, 5, 1, 0] rfl (hrec hf)
set_option maxRecDepth 20000 in
theorem wX11_mean_j35 {G : Wc} {Γ : Cx} {o : Nat} {S : Ob} {l1 : Int32} {l2 : Int32} {s1 : Int32} {r : Int32 × Ob} (hk0 : kd o = 10) (hF : Fnl G Γ (some .int) (some (.int r.1)) (ov Γ.2.2.2 [(o, r.2)])) (hf : pX11_mean_j35 S l1 l2 s1 = some r) : V cX11_mean RX11 4 128 6 G Γ [(o, S)] 35 [(0, .ref (wA G o 0)), (1, .int l1), (2, .int l2)] [.int s1, .ref (wA G o 0)] := by
  unfold pX11_mean_j35 at hf
  replace hf := bd_some hf; obtain ⟨r4, h5, hf⟩ := hf
  refine V_call (pc := 35) (us1 := [_]) [0] 0 (kX11_throwsIf (o := o) hk0 h5) rfl rfl rfl rfl rfl hk0 (Nat.le_of_ble_eq_true rfl) rfl rfl rfl wm_RX11_257 md_X11_throwsIf (Nat.le_of_ble_eq_true rfl) (Nat.le_of_ble_eq_true rfl) rfl rfl (Nat.le_of_ble_eq_true rfl) dX11_mean_35 ?_
  refine v_if_eq (pc := 38) 43 dX11_mean_38 (by decide) (fun c6 => ?_) (fun c6 => ?_)
  · replace hf := it_t c6 hf
    refine v_aload_n (pc := 43) 0 dX11_mean_43 rfl ?_
    refine v_iload_n (pc := 44) 1 dX11_mean_44 rfl ?_
    replace hf := bd_some hf; obtain ⟨r7, h8, hf⟩ := hf
    refine V_call (pc := 45) (us1 := [_]) [0] 0 (kX11_knotsOf (o := o) hk0 h8) rfl rfl rfl rfl rfl hk0 (Nat.le_of_ble_eq_true rfl) rfl rfl rfl wm_RX11_261 md_X11_knotsOf (Nat.le_of_ble_eq_true rfl) (Nat.le_of_ble_eq_true rfl) rfl rfl (Nat.le_of_ble_eq_true rfl) dX11_mean_45 ?_
    refine v_istore_n (pc := 48) [(3, _), (0, _), (1, _), (2, _)] dX11_mean_48 (Nat.le_of_ble_eq_true rfl) rfl ?_
    refine v_aload_n (pc := 49) 1 dX11_mean_49 rfl ?_
    refine v_iload_n (pc := 50) 2 dX11_mean_50 rfl ?_
    replace hf := bd_some hf; obtain ⟨r9, h10, hf⟩ := hf
    refine V_call (pc := 51) (us1 := [_]) [0] 0 (kX11_holdsOf (o := o) hk0 h10) rfl rfl rfl rfl rfl hk0 (Nat.le_of_ble_eq_true rfl) rfl rfl rfl wm_RX11_268 md_X11_holdsOf (Nat.le_of_ble_eq_true rfl) (Nat.le_of_ble_eq_true rfl) rfl rfl (Nat.le_of_ble_eq_true rfl) dX11_mean_51 ?_
    refine v_istore (pc := 54) [(4, _), (3, _), (0, _), (1, _), (2, _)] dX11_mean_54 (Nat.le_of_ble_eq_true rfl) rfl ?_
    replace hf := bd_some hf; obtain ⟨r13, h14, hf⟩ := hf
    refine V_sub [2, 3, 4, 1, 0] rfl (wX11_mean_l56 hk0 fu h14 ?_)
    refine v_iload_n (pc := 77) 2 dX11_mean_77 rfl ?_
    refine v_if_ne (pc := 78) 89 dX11_mean_78 (by decide) (fun c15 => ?_) (fun c15 => ?_)
    · replace hf := it_f c15 hf
      refine v_aload_n (pc := 89) 0 dX11_mean_89 rfl ?_
      refine v_iload_n (pc := 90) 1 dX11_mean_90 rfl ?_
      replace hf := bd_some hf; obtain ⟨r16, h17, hf⟩ := hf
      refine V_call (pc := 91) (us1 := [_]) [0] 0 (kX11_knotsOf (o := o) hk0 h17) rfl rfl rfl rfl rfl hk0 (Nat.le_of_ble_eq_true rfl) rfl rfl rfl wm_RX11_261 md_X11_knotsOf (Nat.le_of_ble_eq_true rfl) (Nat.le_of_ble_eq_true rfl) rfl rfl (Nat.le_of_ble_eq_true rfl) dX11_mean_91 ?_
      refine v_iload_n (pc := 94) 3 dX11_mean_94 rfl ?_
      replace hf := gd_some hf; obtain ⟨g18, hf⟩ := hf
      refine v_idiv (pc := 95) dX11_mean_95 (of_decide_eq_true g18) ?_
      have hf2 := Option.some.inj hf; subst hf2
      exact V_iret (pc := 96) hF dX11_mean_96
    · replace hf := it_t c15 hf
      refine v_aload_n (pc := 81) 0 dX11_mean_81 rfl ?_
      refine v_iload_n (pc := 82) 1 dX11_mean_82 rfl ?_
      replace hf := bd_some hf; obtain ⟨r19, h20, hf⟩ := hf
      refine V_call (pc := 83) (us1 := [_]) [0] 0 (kX11_holdsOf (o := o) hk0 h20) rfl rfl rfl rfl rfl hk0 (Nat.le_of_ble_eq_true rfl) rfl rfl rfl wm_RX11_268 md_X11_holdsOf (Nat.le_of_ble_eq_true rfl) (Nat.le_of_ble_eq_true rfl) rfl rfl (Nat.le_of_ble_eq_true rfl) dX11_mean_83 ?_
      refine v_goto (pc := 86) 94 dX11_mean_86 (by decide) ?_
      refine v_iload_n (pc := 94) 3 dX11_mean_94 rfl ?_
      replace hf := gd_some hf; obtain ⟨g21, hf⟩ := hf
      refine v_idiv (pc := 95) dX11_mean_95 (of_decide_eq_true g21) ?_
      have hf2 := Option.some.inj hf; subst hf2
      exact V_iret (pc := 96) hF dX11_mean_96
  · replace hf := it_f c6 hf
    refine v_iconst (pc := 41) (0 : Int32) dX11_mean_41 ci_0 ?_
    have hf2 := Option.some.inj hf; subst hf2
    exact V_iret (pc := 42) hF dX11_mean_42
set_option maxRecDepth 20000 in
theorem wX11_mean_j30 {G : Wc} {Γ : Cx} {o : Nat} {S : Ob} {l1 : Int32} {l2 : Int32} {r : Int32 × Ob} (hk0 : kd o = 10) (hF : Fnl G Γ (some .int) (some (.int r.1)) (ov Γ.2.2.2 [(o, r.2)])) (hf : pX11_mean_j30 S l1 l2 = some r) : V cX11_mean RX11 4 128 6 G Γ [(o, S)] 30 [(0, .ref (wA G o 0)), (1, .int l1), (2, .int l2)] [.ref (wA G o 0)] := by
  unfold pX11_mean_j30 at hf
  refine v_iconst (pc := 30) (1 : Int32) dX11_mean_30 ci_1 ?_
  refine v_goto (pc := 31) 35 dX11_mean_31 (by decide) ?_
  exact V_sub [0, 1, 2] rfl (wX11_mean_j35 hk0 hF hf)
set_option maxRecDepth 20000 in
theorem kX11_mean {G : Wc} {o : Nat} {S : Ob} {a : Int32} {b : Int32} {r : Int32 × Ob} (hk0 : kd o = 10) (hf : pX11_mean S  a b = some r) : Cn yX11_mean cX11_mean 6 (some .int) 4 128 G [.ref (wA G o 0), .int a, .int b] [(o, S)] [(o, r.2)] (some (.int r.1)) := by
  refine V_method [(0, .ref (wA G o 0)), (1, .int a), (2, .int b)] (by decide) rfl (Nat.le_of_ble_eq_true rfl) rfl (fun Γ hF => ?_)
  unfold pX11_mean at hf
  refine v_aload_n (pc := 0) 0 dX11_mean_0 rfl ?_
  refine v_aload_n (pc := 1) 0 dX11_mean_1 rfl ?_
  refine v_iload_n (pc := 2) 1 dX11_mean_2 rfl ?_
  replace hf := bd_some hf; obtain ⟨r1, h2, hf⟩ := hf
  refine V_call (pc := 3) (us1 := [_]) [0] 0 (kX11_isPerson (o := o) hk0 h2) rfl rfl rfl rfl rfl hk0 (Nat.le_of_ble_eq_true rfl) rfl rfl rfl wm_RX11_254 md_X11_isPerson (Nat.le_of_ble_eq_true rfl) (Nat.le_of_ble_eq_true rfl) rfl rfl (Nat.le_of_ble_eq_true rfl) dX11_mean_3 ?_
  refine v_if_eq (pc := 6) 30 dX11_mean_6 (by decide) (fun c3 => ?_) (fun c3 => ?_)
  · replace hf := it_t c3 hf
    exact V_sub [0, 1, 2] rfl (wX11_mean_j30 hk0 hF hf)
  · replace hf := it_f c3 hf
    refine v_iload_n (pc := 9) 2 dX11_mean_9 rfl ?_
    refine v_iconst (pc := 10) (0 : Int32) dX11_mean_10 ci_0 ?_
    refine v_iconst (pc := 11) (1 : Int32) dX11_mean_11 ci_1 ?_
    replace hf := bd_some hf; obtain ⟨r22, h23, hf⟩ := hf
    refine V_callS (pc := 12) (us1 := [_]) [] (kX11_isIn  h23) rfl rfl rfl rfl wm_RX11_176 md_X11_isIn (Nat.le_of_ble_eq_true rfl) (Nat.le_of_ble_eq_true rfl) rfl rfl (Nat.le_of_ble_eq_true rfl) dX11_mean_12 ?_
    refine v_if_eq (pc := 15) 30 dX11_mean_15 (by decide) (fun c24 => ?_) (fun c24 => ?_)
    · replace hf := it_t c24 hf
      exact V_sub [0, 1, 2] rfl (wX11_mean_j30 hk0 hF hf)
    · replace hf := it_f c24 hf
      refine v_aload_n (pc := 18) 0 dX11_mean_18 rfl ?_
      refine gf_RX11_33 (pc := 19) 0 rfl hk0 dX11_mean_19 ?_
      refine v_bipush (pc := 22) (125 : Int32) dX11_mean_22 cb_125 ?_
      refine v_iload_n (pc := 24) 1 dX11_mean_24 rfl ?_
      refine v_iadd (pc := 25) dX11_mean_25 ?_
      replace hf := gd_some hf; obtain ⟨g25, hf⟩ := hf
      refine al_X11_6 (pc := 26) _ 0 rfl hk0 rfl g25 dX11_mean_26 ?_
      refine v_if_ne (pc := 27) 34 dX11_mean_27 (by decide) (fun c26 => ?_) (fun c26 => ?_)
      · replace hf := it_f c26 hf
        refine v_iconst (pc := 34) (0 : Int32) dX11_mean_34 ci_0 ?_
        exact V_sub [0, 1, 2] rfl (wX11_mean_j35 hk0 hF hf)
      · replace hf := it_t c26 hf
        exact V_sub [0, 1, 2] rfl (wX11_mean_j30 hk0 hF hf)
set_option maxRecDepth 20000 in
theorem kX11_lays {G : Wc} {o : Nat} {S : Ob} {a : Int32} {r : Ob} (hk0 : kd o = 10) (hf : pX11_lays S  a = some r) : Cn yX11_lays cX11_lays 2 (none) 1 60 G [.ref (wA G o 0), .int a] [(o, S)] [(o, r)] none := by
  refine V_method [(0, .ref (wA G o 0)), (1, .int a)] (by decide) rfl (Nat.le_of_ble_eq_true rfl) rfl (fun Γ hF => ?_)
  unfold pX11_lays at hf
  refine v_aload_n (pc := 0) 0 dX11_lays_0 rfl ?_
  refine gf_RX11_66 (pc := 1) 0 rfl hk0 dX11_lays_1 ?_
  refine v_aload_n (pc := 4) 0 dX11_lays_4 rfl ?_
  refine gf_RX11_378 (pc := 5) 0 rfl hk0 dX11_lays_5 ?_
  refine v_iload_n (pc := 8) 1 dX11_lays_8 rfl ?_
  refine v_i2b (pc := 9) dX11_lays_9 ?_
  replace hf := gd_some hf; obtain ⟨g1, hf⟩ := hf
  refine as_X11_33 (pc := 10) [_] _ 0 rfl hk0 rfl g1 rfl dX11_lays_10 ?_
  refine v_aload_n (pc := 11) 0 dX11_lays_11 rfl ?_
  refine v_dup (pc := 12) dX11_lays_12 rfl ?_
  refine gf_RX11_378 (pc := 13) 0 rfl hk0 dX11_lays_13 ?_
  refine v_iconst (pc := 16) (1 : Int32) dX11_lays_16 ci_1 ?_
  refine v_iadd (pc := 17) dX11_lays_17 ?_
  refine pf_RX11_378 (pc := 18) [_] 0 rfl hk0 rfl dX11_lays_18 ?_
  have hf2 := Option.some.inj hf; subst hf2
  exact V_vret (pc := 21) hF dX11_lays_21
