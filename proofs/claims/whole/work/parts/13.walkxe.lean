set_option maxRecDepth 20000 in
theorem wX3_bestRound_j39 {G : Wc} {Γ : Cx} {o oa ob : Nat} {S : Ob} {Sa : Ob} {Sb : Ob} {l3 : Int32} {l4 : Int32} {s0 : Int32} {r : Ob} (hk0 : kd o = 3) (hk1 : kd oa = 4) (hk2 : kd ob = 6) {rec : Int32 → Ob → Option (Ob)} (hrec : ∀ {l4 : Int32} {S : Ob}, rec l4 S = some r → V cX3_bestRound RX3 5 159 9 G Γ [(o, S), (oa, Sa), (ob, Sb)] 3 [(0, .ref (wA G o 0)), (1, .ref (wA G oa 0)), (2, .ref (wA G ob 0)), (3, .int l3), (4, .int l4)] []) (hx : V cX3_bestRound RX3 5 159 9 G Γ [(o, r), (oa, Sa), (ob, Sb)] 70 [(0, .ref (wA G o 0)), (1, .ref (wA G oa 0)), (3, .int l3)] []) (hf : pX3_bestRound_j39 rec S Sa Sb l3 l4 s0 = some r) : V cX3_bestRound RX3 5 159 9 G Γ [(o, S), (oa, Sa), (ob, Sb)] 39 [(0, .ref (wA G o 0)), (1, .ref (wA G oa 0)), (2, .ref (wA G ob 0)), (3, .int l3), (4, .int l4)] [.int s0] := by
  unfold pX3_bestRound_j39 at hf
  refine v_istore (pc := 39) [(5, _), (0, _), (1, _), (2, _), (3, _), (4, _)] dX3_bestRound_39 (Nat.le_of_ble_eq_true rfl) rfl ?_
  refine v_aload_n (pc := 41) 1 dX3_bestRound_41 rfl ?_
  refine gf_RX3_21 (pc := 42) 0 rfl hk0 dX3_bestRound_42 ?_
  refine v_iload (pc := 45) 5 dX3_bestRound_45 rfl ?_
  refine v_iload (pc := 47) 0 dX3_bestRound_47 rfl ?_
  refine v_if_eq (pc := 49) 62 dX3_bestRound_49 (by decide) (fun c4 => ?_) (fun c4 => ?_)
  · replace hf := it_t c4 hf
    refine v_iconst (pc := 62) (-1 : Int32) dX3_bestRound_62 ci_m1 ?_
    replace hf := gd_some hf; obtain ⟨g5, hf⟩ := hf
    refine as_X3_6 (pc := 63) [_, _, _] _ 0 rfl hk0 rfl g5 rfl dX3_bestRound_63 ?_
    refine v_iinc (pc := 64) 5 (l4 + (1 : Int32)) [(4, _), (5, _), (0, _), (1, _), (2, _), (3, _)] dX3_bestRound_64 rfl (congrArg (fun z => _ + z) ci_1) (Nat.le_of_ble_eq_true rfl) rfl ?_
    refine v_goto (pc := 67) 3 dX3_bestRound_67 (by decide) ?_
    exact V_sub [2, 3, 4, 5, 0] rfl (hrec hf)
  · replace hf := it_f c4 hf
    refine v_aload_n (pc := 52) 3 dX3_bestRound_52 rfl ?_
    refine v_aload_n (pc := 53) 2 dX3_bestRound_53 rfl ?_
    refine v_iload (pc := 54) 5 dX3_bestRound_54 rfl ?_
    replace hf := bd_some hf; obtain ⟨r6, h7, hf⟩ := hf
    refine V_call (pc := 56) (us1 := [_, _, _]) [2, 1] 2 (kX6_allHolds (o := ob) (oa := oa) hk2 hk1 h7) rfl rfl rfl rfl rfl hk2 (Nat.le_of_ble_eq_true rfl) rfl rfl rfl wm_RX3_24 md_X6_allHolds (Nat.le_of_ble_eq_true rfl) (Nat.le_of_ble_eq_true rfl) rfl rfl (Nat.le_of_ble_eq_true rfl) dX3_bestRound_56 ?_
    refine v_goto (pc := 59) 63 dX3_bestRound_59 (by decide) ?_
    replace hf := gd_some hf; obtain ⟨g8, hf⟩ := hf
    refine as_X3_6 (pc := 63) [_, _, _] _ 0 rfl hk0 rfl g8 rfl dX3_bestRound_63 ?_
    refine v_iinc (pc := 64) 5 (l4 + (1 : Int32)) [(4, _), (5, _), (0, _), (1, _), (2, _), (3, _)] dX3_bestRound_64 rfl (congrArg (fun z => _ + z) ci_1) (Nat.le_of_ble_eq_true rfl) rfl ?_
    refine v_goto (pc := 67) 3 dX3_bestRound_67 (by decide) ?_
    exact V_sub [2, 3, 4, 5, 0] rfl (hrec hf)
set_option maxRecDepth 20000 in
theorem wX3_bestRound_j38 {G : Wc} {Γ : Cx} {o oa ob : Nat} {S : Ob} {Sa : Ob} {Sb : Ob} {l3 : Int32} {l4 : Int32} {r : Ob} (hk0 : kd o = 3) (hk1 : kd oa = 4) (hk2 : kd ob = 6) {rec : Int32 → Ob → Option (Ob)} (hrec : ∀ {l4 : Int32} {S : Ob}, rec l4 S = some r → V cX3_bestRound RX3 5 159 9 G Γ [(o, S), (oa, Sa), (ob, Sb)] 3 [(0, .ref (wA G o 0)), (1, .ref (wA G oa 0)), (2, .ref (wA G ob 0)), (3, .int l3), (4, .int l4)] []) (hx : V cX3_bestRound RX3 5 159 9 G Γ [(o, r), (oa, Sa), (ob, Sb)] 70 [(0, .ref (wA G o 0)), (1, .ref (wA G oa 0)), (3, .int l3)] []) (hf : pX3_bestRound_j38 rec S Sa Sb l3 l4 = some r) : V cX3_bestRound RX3 5 159 9 G Γ [(o, S), (oa, Sa), (ob, Sb)] 38 [(0, .ref (wA G o 0)), (1, .ref (wA G oa 0)), (2, .ref (wA G ob 0)), (3, .int l3), (4, .int l4)] [] := by
  unfold pX3_bestRound_j38 at hf
  refine v_iconst (pc := 38) (0 : Int32) dX3_bestRound_38 ci_0 ?_
  exact V_sub [0, 1, 2, 3, 4] rfl (wX3_bestRound_j39 hk0 hk1 hk2 hrec hx hf)
set_option maxRecDepth 20000 in
theorem wX3_bestRound_l3 {G : Wc} {Γ : Cx} {o oa ob : Nat} {Sa : Ob} {Sb : Ob} {l3 : Int32} (hk0 : kd o = 3) (hk1 : kd oa = 4) (hk2 : kd ob = 6) : ∀ (n : Nat) {l4 : Int32} {S : Ob} {r : Ob}, pX3_bestRound_l3  Sa Sb l3 n l4 S = some r → V cX3_bestRound RX3 5 159 9 G Γ [(o, r), (oa, Sa), (ob, Sb)] 70 [(0, .ref (wA G o 0)), (1, .ref (wA G oa 0)), (3, .int l3)] [] → V cX3_bestRound RX3 5 159 9 G Γ [(o, S), (oa, Sa), (ob, Sb)] 3 [(0, .ref (wA G o 0)), (1, .ref (wA G oa 0)), (2, .ref (wA G ob 0)), (3, .int l3), (4, .int l4)] [] := by
  intro n
  induction n with
  | zero => intro l4 S r hf hx; unfold pX3_bestRound_l3 at hf; cases hf
  | succ n ih =>
    intro l4 S r hf hx
    have hrec : ∀ {l4 : Int32} {S : Ob}, pX3_bestRound_l3  Sa Sb l3 n l4 S = some r → V cX3_bestRound RX3 5 159 9 G Γ [(o, S), (oa, Sa), (ob, Sb)] 3 [(0, .ref (wA G o 0)), (1, .ref (wA G oa 0)), (2, .ref (wA G ob 0)), (3, .int l3), (4, .int l4)] [] := fun h => ih h hx
    clear ih
    unfold pX3_bestRound_l3 at hf
    refine v_iload (pc := 3) 4 dX3_bestRound_3 rfl ?_
    refine v_aload_n (pc := 5) 1 dX3_bestRound_5 rfl ?_
    refine gf_RX3_69 (pc := 6) 1 rfl hk1 dX3_bestRound_6 ?_
    refine v_icmp_ge (pc := 9) 70 dX3_bestRound_9 (by decide) (fun c1 => ?_) (fun c1 => ?_)
    · replace hf := it_t c1 hf
      have hf2 := Option.some.inj hf; subst hf2
      exact V_sub [0, 1, 3] rfl hx
    · replace hf := it_f c1 hf
      refine v_aload_n (pc := 12) 2 dX3_bestRound_12 rfl ?_
      refine gf_RX3_38 (pc := 13) 2 rfl hk2 dX3_bestRound_13 ?_
      refine v_iload (pc := 16) 4 dX3_bestRound_16 rfl ?_
      replace hf := gd_some hf; obtain ⟨g2, hf⟩ := hf
      refine al_X6_1 (pc := 18) _ 2 rfl hk2 rfl g2 dX3_bestRound_18 ?_
      refine v_if_le (pc := 19) 38 dX3_bestRound_19 (by decide) (fun c3 => ?_) (fun c3 => ?_)
      · replace hf := it_t c3 hf
        exact V_sub [0, 1, 2, 3, 4] rfl (wX3_bestRound_j38 hk0 hk1 hk2 hrec hx hf)
      · replace hf := it_f c3 hf
        refine v_aload_n (pc := 22) 0 dX3_bestRound_22 rfl ?_
        refine v_aload_n (pc := 23) 1 dX3_bestRound_23 rfl ?_
        refine v_aload_n (pc := 24) 2 dX3_bestRound_24 rfl ?_
        refine v_iload (pc := 25) 4 dX3_bestRound_25 rfl ?_
        replace hf := bd_some hf; obtain ⟨r9, h10, hf⟩ := hf
        refine V_call (pc := 27) (us1 := [_, _, _]) [0, 1, 2] 0 (kX3_fewestStrokes (o := o) (oa := oa) (ob := ob) hk0 hk1 hk2 h10) rfl rfl rfl rfl rfl hk0 (Nat.le_of_ble_eq_true rfl) rfl rfl rfl wm_RX3_72 md_X3_fewestStrokes (Nat.le_of_ble_eq_true rfl) (Nat.le_of_ble_eq_true rfl) rfl rfl (Nat.le_of_ble_eq_true rfl) dX3_bestRound_27 ?_
        refine v_iconst (pc := 30) (-1 : Int32) dX3_bestRound_30 ci_m1 ?_
        refine v_icmp_eq (pc := 31) 38 dX3_bestRound_31 (by decide) (fun c11 => ?_) (fun c11 => ?_)
        · replace hf := it_t c11 hf
          exact V_sub [0, 1, 2, 3, 4] rfl (wX3_bestRound_j38 hk0 hk1 hk2 hrec hx hf)
        · replace hf := it_f c11 hf
          refine v_iconst (pc := 34) (1 : Int32) dX3_bestRound_34 ci_1 ?_
          refine v_goto (pc := 35) 39 dX3_bestRound_35 (by decide) ?_
          exact V_sub [0, 1, 2, 3, 4] rfl (wX3_bestRound_j39 hk0 hk1 hk2 hrec hx hf)
set_option maxRecDepth 20000 in
theorem wX3_bestRound_j141 {G : Wc} {Γ : Cx} {o oa ob : Nat} {S : Ob} {Sa : Ob} {Sb : Ob} {l3 : Int32} {l4 : Int32} {l6 : Int32} {l7 : Int32} {r : Int32} (hk0 : kd o = 3) (hk1 : kd oa = 4) (hk2 : kd ob = 6) {rec : Int32 → Int32 → Int32 → Option (Int32)} (hrec : ∀ {l4 : Int32} {l5 : Int32} {l6 : Int32}, rec l4 l5 l6 = some r → V cX3_bestRound RX3 5 159 9 G Γ [(o, S), (oa, Sa), (ob, Sb)] 79 [(0, .ref (wA G o 0)), (1, .ref (wA G oa 0)), (3, .int l3), (4, .int l4), (5, .int l5), (6, .int l6)] []) (hx : V cX3_bestRound RX3 5 159 9 G Γ [(o, S), (oa, Sa), (ob, Sb)] 155 [(4, .int r)] []) (hf : pX3_bestRound_j141 rec S Sa Sb l3 l4 l6 l7 = some r) : V cX3_bestRound RX3 5 159 9 G Γ [(o, S), (oa, Sa), (ob, Sb)] 141 [(0, .ref (wA G o 0)), (1, .ref (wA G oa 0)), (3, .int l3), (4, .int l4), (6, .int l6), (7, .int l7)] [] := by
  unfold pX3_bestRound_j141 at hf
  refine v_iload (pc := 141) 4 dX3_bestRound_141 rfl ?_
  refine v_istore (pc := 143) [(4, _), (0, _), (1, _), (3, _), (6, _), (7, _)] dX3_bestRound_143 (Nat.le_of_ble_eq_true rfl) rfl ?_
  refine v_iload (pc := 145) 5 dX3_bestRound_145 rfl ?_
  refine v_istore (pc := 147) [(5, _), (4, _), (0, _), (1, _), (3, _), (6, _), (7, _)] dX3_bestRound_147 (Nat.le_of_ble_eq_true rfl) rfl ?_
  refine v_iinc (pc := 149) 5 (l6 + (1 : Int32)) [(6, _), (5, _), (4, _), (0, _), (1, _), (3, _), (7, _)] dX3_bestRound_149 rfl (congrArg (fun z => _ + z) ci_1) (Nat.le_of_ble_eq_true rfl) rfl ?_
  refine v_goto (pc := 152) 79 dX3_bestRound_152 (by decide) ?_
  exact V_sub [3, 4, 5, 2, 1, 0] rfl (hrec hf)
set_option maxRecDepth 20000 in
theorem wX3_bestRound_l79 {G : Wc} {Γ : Cx} {o oa ob : Nat} {S : Ob} {Sa : Ob} {Sb : Ob} {l3 : Int32} (hk0 : kd o = 3) (hk1 : kd oa = 4) (hk2 : kd ob = 6) : ∀ (n : Nat) {l4 : Int32} {l5 : Int32} {l6 : Int32} {r : Int32}, pX3_bestRound_l79  S Sa Sb l3 n l4 l5 l6 = some r → V cX3_bestRound RX3 5 159 9 G Γ [(o, S), (oa, Sa), (ob, Sb)] 155 [(4, .int r)] [] → V cX3_bestRound RX3 5 159 9 G Γ [(o, S), (oa, Sa), (ob, Sb)] 79 [(0, .ref (wA G o 0)), (1, .ref (wA G oa 0)), (3, .int l3), (4, .int l4), (5, .int l5), (6, .int l6)] [] := by
  intro n
  induction n with
  | zero => intro l4 l5 l6 r hf hx; unfold pX3_bestRound_l79 at hf; cases hf
  | succ n ih =>
    intro l4 l5 l6 r hf hx
    have hrec : ∀ {l4 : Int32} {l5 : Int32} {l6 : Int32}, pX3_bestRound_l79  S Sa Sb l3 n l4 l5 l6 = some r → V cX3_bestRound RX3 5 159 9 G Γ [(o, S), (oa, Sa), (ob, Sb)] 79 [(0, .ref (wA G o 0)), (1, .ref (wA G oa 0)), (3, .int l3), (4, .int l4), (5, .int l5), (6, .int l6)] [] := fun h => ih h hx
    clear ih
    unfold pX3_bestRound_l79 at hf
    refine v_iload (pc := 79) 5 dX3_bestRound_79 rfl ?_
    refine v_iconst (pc := 81) (1 : Int32) dX3_bestRound_81 ci_1 ?_
    refine v_aload_n (pc := 82) 1 dX3_bestRound_82 rfl ?_
    refine gf_RX3_69 (pc := 83) 1 rfl hk1 dX3_bestRound_83 ?_
    refine v_ishl (pc := 86) dX3_bestRound_86 ?_
    refine v_icmp_ge (pc := 87) 155 dX3_bestRound_87 (by decide) (fun c14 => ?_) (fun c14 => ?_)
    · replace hf := it_t c14 hf
      have hf2 := Option.some.inj hf; subst hf2
      exact V_sub [3] rfl hx
    · replace hf := it_f c14 hf
      refine v_aload_n (pc := 90) 0 dX3_bestRound_90 rfl ?_
      refine v_aload_n (pc := 91) 1 dX3_bestRound_91 rfl ?_
      refine v_iload (pc := 92) 5 dX3_bestRound_92 rfl ?_
      replace hf := bd_some hf; obtain ⟨r15, h16, hf⟩ := hf
      refine V_call (pc := 94) (us1 := [_, _, _]) [0, 1] 0 (kX3_roundCost (o := o) (oa := oa) hk0 hk1 h16) rfl rfl rfl rfl rfl hk0 (Nat.le_of_ble_eq_true rfl) rfl rfl rfl wm_RX3_76 md_X3_roundCost (Nat.le_of_ble_eq_true rfl) (Nat.le_of_ble_eq_true rfl) rfl rfl (Nat.le_of_ble_eq_true rfl) dX3_bestRound_94 ?_
      refine v_istore (pc := 97) [(7, _), (0, _), (1, _), (3, _), (4, _), (5, _), (6, _)] dX3_bestRound_97 (Nat.le_of_ble_eq_true rfl) rfl ?_
      refine v_iload (pc := 99) 6 dX3_bestRound_99 rfl ?_
      replace hf := bd_some hf; obtain ⟨r17, h18, hf⟩ := hf
      refine V_callS (pc := 101) (us1 := [_, _, _]) [] (kJ6_bitCount_0f7a4  h18) rfl rfl rfl rfl wm_RX3_79 md_J6_bitCount_0f7a4 (Nat.le_of_ble_eq_true rfl) (Nat.le_of_ble_eq_true rfl) rfl rfl (Nat.le_of_ble_eq_true rfl) dX3_bestRound_101 ?_
      refine v_iload (pc := 104) 4 dX3_bestRound_104 rfl ?_
      replace hf := bd_some hf; obtain ⟨r19, h20, hf⟩ := hf
      refine V_callS (pc := 106) (us1 := [_, _, _]) [] (kJ6_bitCount_0f7a4  h20) rfl rfl rfl rfl wm_RX3_79 md_J6_bitCount_0f7a4 (Nat.le_of_ble_eq_true rfl) (Nat.le_of_ble_eq_true rfl) rfl rfl (Nat.le_of_ble_eq_true rfl) dX3_bestRound_106 ?_
      refine v_isub (pc := 109) dX3_bestRound_109 ?_
      refine v_istore (pc := 110) [(8, _), (7, _), (0, _), (1, _), (3, _), (4, _), (5, _), (6, _)] dX3_bestRound_110 (Nat.le_of_ble_eq_true rfl) rfl ?_
      refine v_iload (pc := 112) 1 dX3_bestRound_112 rfl ?_
      refine v_iconst (pc := 114) (-1 : Int32) dX3_bestRound_114 ci_m1 ?_
      refine v_icmp_eq (pc := 115) 149 dX3_bestRound_115 (by decide) (fun c21 => ?_) (fun c21 => ?_)
      · replace hf := it_t c21 hf
        refine v_iinc (pc := 149) 7 (l6 + (1 : Int32)) [(6, _), (8, _), (7, _), (0, _), (1, _), (3, _), (4, _), (5, _)] dX3_bestRound_149 rfl (congrArg (fun z => _ + z) ci_1) (Nat.le_of_ble_eq_true rfl) rfl ?_
        refine v_goto (pc := 152) 79 dX3_bestRound_152 (by decide) ?_
        exact V_sub [3, 4, 5, 6, 7, 0] rfl (hrec hf)
      · replace hf := it_f c21 hf
        refine v_iload (pc := 118) 1 dX3_bestRound_118 rfl ?_
        refine v_iload_n (pc := 120) 4 dX3_bestRound_120 rfl ?_
        refine v_icmp_gt (pc := 121) 149 dX3_bestRound_121 (by decide) (fun c22 => ?_) (fun c22 => ?_)
        · replace hf := it_t c22 hf
          refine v_iinc (pc := 149) 7 (l6 + (1 : Int32)) [(6, _), (8, _), (7, _), (0, _), (1, _), (3, _), (4, _), (5, _)] dX3_bestRound_149 rfl (congrArg (fun z => _ + z) ci_1) (Nat.le_of_ble_eq_true rfl) rfl ?_
          refine v_goto (pc := 152) 79 dX3_bestRound_152 (by decide) ?_
          exact V_sub [3, 4, 5, 6, 7, 0] rfl (hrec hf)
        · replace hf := it_f c22 hf
          refine v_iload (pc := 124) 0 dX3_bestRound_124 rfl ?_
          refine v_if_gt (pc := 126) 141 dX3_bestRound_126 (by decide) (fun c23 => ?_) (fun c23 => ?_)
          · replace hf := it_t c23 hf
            exact V_sub [2, 3, 4, 5, 7, 1] rfl (wX3_bestRound_j141 hk0 hk1 hk2 hrec hx hf)
          · replace hf := it_f c23 hf
            refine v_iload (pc := 129) 0 dX3_bestRound_129 rfl ?_
            refine v_if_ne (pc := 131) 149 dX3_bestRound_131 (by decide) (fun c24 => ?_) (fun c24 => ?_)
            · replace hf := it_f c24 hf
              refine v_iinc (pc := 149) 7 (l6 + (1 : Int32)) [(6, _), (8, _), (7, _), (0, _), (1, _), (3, _), (4, _), (5, _)] dX3_bestRound_149 rfl (congrArg (fun z => _ + z) ci_1) (Nat.le_of_ble_eq_true rfl) rfl ?_
              refine v_goto (pc := 152) 79 dX3_bestRound_152 (by decide) ?_
              exact V_sub [3, 4, 5, 6, 7, 0] rfl (hrec hf)
            · replace hf := it_t c24 hf
              refine v_iload (pc := 134) 1 dX3_bestRound_134 rfl ?_
              refine v_iload (pc := 136) 6 dX3_bestRound_136 rfl ?_
              refine v_icmp_ge (pc := 138) 149 dX3_bestRound_138 (by decide) (fun c25 => ?_) (fun c25 => ?_)
              · replace hf := it_t c25 hf
                refine v_iinc (pc := 149) 7 (l6 + (1 : Int32)) [(6, _), (8, _), (7, _), (0, _), (1, _), (3, _), (4, _), (5, _)] dX3_bestRound_149 rfl (congrArg (fun z => _ + z) ci_1) (Nat.le_of_ble_eq_true rfl) rfl ?_
                refine v_goto (pc := 152) 79 dX3_bestRound_152 (by decide) ?_
                exact V_sub [3, 4, 5, 6, 7, 0] rfl (hrec hf)
              · replace hf := it_f c25 hf
                exact V_sub [2, 3, 4, 5, 7, 1] rfl (wX3_bestRound_j141 hk0 hk1 hk2 hrec hx hf)
set_option maxRecDepth 20000 in
theorem kX3_bestRound {G : Wc} {o oa ob : Nat} {S : Ob} {Sa : Ob} {Sb : Ob} {c : Int32} {r : Int32 × Ob} (hk0 : kd o = 3) (hk1 : kd oa = 4) (hk2 : kd ob = 6) (hf : pX3_bestRound S Sa Sb  c = some r) : Cn yX3_bestRound cX3_bestRound 9 (some .int) 5 159 G [.ref (wA G o 0), .ref (wA G oa 0), .ref (wA G ob 0), .int c] [(o, S), (oa, Sa), (ob, Sb)] [(o, r.2), (oa, Sa), (ob, Sb)] (some (.int r.1)) := by
  refine V_method [(0, .ref (wA G o 0)), (1, .ref (wA G oa 0)), (2, .ref (wA G ob 0)), (3, .int c)] (by decide) rfl (Nat.le_of_ble_eq_true rfl) rfl (fun Γ hF => ?_)
  unfold pX3_bestRound at hf
  refine v_iconst (pc := 0) (0 : Int32) dX3_bestRound_0 ci_0 ?_
  refine v_istore (pc := 1) [(4, _), (0, _), (1, _), (2, _), (3, _)] dX3_bestRound_1 (Nat.le_of_ble_eq_true rfl) rfl ?_
  replace hf := bd_some hf; obtain ⟨r12, h13, hf⟩ := hf
  refine V_sub [1, 2, 3, 4, 0] rfl (wX3_bestRound_l3 hk0 hk1 hk2 fu h13 ?_)
  refine v_iconst (pc := 70) (0 : Int32) dX3_bestRound_70 ci_0 ?_
  refine v_istore (pc := 71) [(4, _), (0, _), (1, _), (3, _)] dX3_bestRound_71 (Nat.le_of_ble_eq_true rfl) rfl ?_
  refine v_iconst (pc := 73) (0 : Int32) dX3_bestRound_73 ci_0 ?_
  refine v_istore (pc := 74) [(5, _), (4, _), (0, _), (1, _), (3, _)] dX3_bestRound_74 (Nat.le_of_ble_eq_true rfl) rfl ?_
  refine v_iconst (pc := 76) (1 : Int32) dX3_bestRound_76 ci_1 ?_
  refine v_istore (pc := 77) [(6, _), (5, _), (4, _), (0, _), (1, _), (3, _)] dX3_bestRound_77 (Nat.le_of_ble_eq_true rfl) rfl ?_
  replace hf := bd_some hf; obtain ⟨r26, h27, hf⟩ := hf
  refine V_sub [3, 4, 5, 2, 1, 0] rfl (wX3_bestRound_l79 hk0 hk1 hk2 fu h27 ?_)
  refine v_iload (pc := 155) 0 dX3_bestRound_155 rfl ?_
  have hf2 := Option.some.inj hf; subst hf2
  exact V_iret (pc := 157) hF dX3_bestRound_157
set_option maxRecDepth 20000 in
theorem wX3_listBag_j98 {G : Wc} {Γ : Cx} {o oa ob : Nat} {S : Ob} {Sa : Ob} {Sb : Ob} {l3 : Int32} {l4 : Int32} {s1 : Int32} {s2 : Int32} {r : Ob} (hk0 : kd o = 3) (hk1 : kd oa = 4) (hk2 : kd ob = 6) {rec : Int32 → Ob → Option (Ob)} (hrec : ∀ {l4 : Int32} {S : Ob}, rec l4 S = some r → V cX3_listBag RX3 1 60 5 G Γ [(o, S), (oa, Sa), (ob, Sb)] 28 [(0, .ref (wA G o 0)), (1, .ref (wA G oa 0)), (2, .ref (wA G ob 0)), (3, .int l3), (4, .int l4)] []) (hx : V cX3_listBag RX3 1 60 5 G Γ [(o, r), (oa, Sa), (ob, Sb)] 118 [(0, .ref (wA G o 0)), (1, .ref (wA G oa 0)), (2, .ref (wA G ob 0)), (3, .int l3)] []) (hf : pX3_listBag_j98 rec S Sa Sb l3 l4 s1 s2 = some r) : V cX3_listBag RX3 1 60 5 G Γ [(o, S), (oa, Sa), (ob, Sb)] 98 [(0, .ref (wA G o 0)), (1, .ref (wA G oa 0)), (2, .ref (wA G ob 0)), (3, .int l3), (4, .int l4)] [.int s2, .int s1, .ref (wA G o 0)] := by
  unfold pX3_listBag_j98 at hf
  refine v_ior (pc := 98) dX3_listBag_98 ?_
  refine pf_RX3_106 (pc := 99) [_, _, _] 0 rfl hk0 rfl dX3_listBag_99 ?_
  refine v_aload_n (pc := 102) 0 dX3_listBag_102 rfl ?_
  refine v_dup (pc := 103) dX3_listBag_103 rfl ?_
  refine gf_RX3_100 (pc := 104) 0 rfl hk0 dX3_listBag_104 ?_
  refine v_iconst (pc := 107) (1 : Int32) dX3_listBag_107 ci_1 ?_
  refine v_iadd (pc := 108) dX3_listBag_108 ?_
  refine pf_RX3_100 (pc := 109) [_, _, _] 0 rfl hk0 rfl dX3_listBag_109 ?_
  refine v_iinc (pc := 112) 4 (l4 + (1 : Int32)) [(4, _), (0, _), (1, _), (2, _), (3, _)] dX3_listBag_112 rfl (congrArg (fun z => _ + z) ci_1) (Nat.le_of_ble_eq_true rfl) rfl ?_
  refine v_goto (pc := 115) 28 dX3_listBag_115 (by decide) ?_
  exact V_sub [1, 2, 3, 4, 0] rfl (hrec hf)
set_option maxRecDepth 20000 in
theorem wX3_listBag_l28 {G : Wc} {Γ : Cx} {o oa ob : Nat} {Sa : Ob} {Sb : Ob} {l3 : Int32} (hk0 : kd o = 3) (hk1 : kd oa = 4) (hk2 : kd ob = 6) : ∀ (n : Nat) {l4 : Int32} {S : Ob} {r : Ob}, pX3_listBag_l28  Sa Sb l3 n l4 S = some r → V cX3_listBag RX3 1 60 5 G Γ [(o, r), (oa, Sa), (ob, Sb)] 118 [(0, .ref (wA G o 0)), (1, .ref (wA G oa 0)), (2, .ref (wA G ob 0)), (3, .int l3)] [] → V cX3_listBag RX3 1 60 5 G Γ [(o, S), (oa, Sa), (ob, Sb)] 28 [(0, .ref (wA G o 0)), (1, .ref (wA G oa 0)), (2, .ref (wA G ob 0)), (3, .int l3), (4, .int l4)] [] := by
  intro n
  induction n with
  | zero => intro l4 S r hf hx; unfold pX3_listBag_l28 at hf; cases hf
  | succ n ih =>
    intro l4 S r hf hx
    have hrec : ∀ {l4 : Int32} {S : Ob}, pX3_listBag_l28  Sa Sb l3 n l4 S = some r → V cX3_listBag RX3 1 60 5 G Γ [(o, S), (oa, Sa), (ob, Sb)] 28 [(0, .ref (wA G o 0)), (1, .ref (wA G oa 0)), (2, .ref (wA G ob 0)), (3, .int l3), (4, .int l4)] [] := fun h => ih h hx
    clear ih
    unfold pX3_listBag_l28 at hf
    refine v_iload (pc := 28) 4 dX3_listBag_28 rfl ?_
    refine v_aload_n (pc := 30) 2 dX3_listBag_30 rfl ?_
    refine gf_RX3_112 (pc := 31) 2 rfl hk2 dX3_listBag_31 ?_
    refine v_iload_n (pc := 34) 3 dX3_listBag_34 rfl ?_
    replace hf := gd_some hf; obtain ⟨g2, hf⟩ := hf
    refine al_X6_3 (pc := 35) _ 2 rfl hk2 rfl g2 dX3_listBag_35 ?_
    refine v_icmp_ge (pc := 36) 118 dX3_listBag_36 (by decide) (fun c3 => ?_) (fun c3 => ?_)
    · replace hf := it_t c3 hf
      have hf2 := Option.some.inj hf; subst hf2
      exact V_sub [0, 1, 2, 3] rfl hx
    · replace hf := it_f c3 hf
      refine v_aload_n (pc := 39) 0 dX3_listBag_39 rfl ?_
      refine gf_RX3_100 (pc := 40) 0 rfl hk0 dX3_listBag_40 ?_
      refine v_bipush (pc := 43) (10 : Int32) dX3_listBag_43 cb_10 ?_
      refine v_icmp_ge (pc := 45) 118 dX3_listBag_45 (by decide) (fun c4 => ?_) (fun c4 => ?_)
      · replace hf := it_t c4 hf
        have hf2 := Option.some.inj hf; subst hf2
        exact V_sub [0, 1, 2, 3] rfl hx
      · replace hf := it_f c4 hf
        refine v_aload_n (pc := 48) 0 dX3_listBag_48 rfl ?_
        refine gf_RX3_15 (pc := 49) 0 rfl hk0 dX3_listBag_49 ?_
        refine v_aload_n (pc := 52) 0 dX3_listBag_52 rfl ?_
        refine gf_RX3_100 (pc := 53) 0 rfl hk0 dX3_listBag_53 ?_
        refine v_aload_n (pc := 56) 1 dX3_listBag_56 rfl ?_
        refine gf_RX3_115 (pc := 57) 1 rfl hk1 dX3_listBag_57 ?_
        refine v_iload_n (pc := 60) 3 dX3_listBag_60 rfl ?_
        replace hf := gd_some hf; obtain ⟨g5, hf⟩ := hf
        refine al_X4_3 (pc := 61) _ 1 rfl hk1 rfl g5 dX3_listBag_61 ?_
        replace hf := gd_some hf; obtain ⟨g6, hf⟩ := hf
        refine as_X3_1 (pc := 62) [_, _, _] _ 0 rfl hk0 rfl g6 rfl dX3_listBag_62 ?_
        refine v_aload_n (pc := 63) 0 dX3_listBag_63 rfl ?_
        refine v_dup (pc := 64) dX3_listBag_64 rfl ?_
        refine gf_RX3_103 (pc := 65) 0 rfl hk0 dX3_listBag_65 ?_
        refine v_aload_n (pc := 68) 1 dX3_listBag_68 rfl ?_
        refine gf_RX3_115 (pc := 69) 1 rfl hk1 dX3_listBag_69 ?_
        refine v_iload_n (pc := 72) 3 dX3_listBag_72 rfl ?_
        replace hf := gd_some hf; obtain ⟨g7, hf⟩ := hf
        refine al_X4_3 (pc := 73) _ 1 rfl hk1 rfl g7 dX3_listBag_73 ?_
        refine v_iadd (pc := 74) dX3_listBag_74 ?_
        refine pf_RX3_103 (pc := 75) [_, _, _] 0 rfl hk0 rfl dX3_listBag_75 ?_
        refine v_aload_n (pc := 78) 0 dX3_listBag_78 rfl ?_
        refine v_dup (pc := 79) dX3_listBag_79 rfl ?_
        refine gf_RX3_106 (pc := 80) 0 rfl hk0 dX3_listBag_80 ?_
        refine v_iload (pc := 83) 4 dX3_listBag_83 rfl ?_
        refine v_if_le (pc := 85) 97 dX3_listBag_85 (by decide) (fun c8 => ?_) (fun c8 => ?_)
        · replace hf := it_t c8 hf
          refine v_iconst (pc := 97) (0 : Int32) dX3_listBag_97 ci_0 ?_
          exact V_sub [0, 1, 2, 3, 4] rfl (wX3_listBag_j98 hk0 hk1 hk2 hrec hx hf)
        · replace hf := it_f c8 hf
          refine v_iconst (pc := 88) (1 : Int32) dX3_listBag_88 ci_1 ?_
          refine v_aload_n (pc := 89) 0 dX3_listBag_89 rfl ?_
          refine gf_RX3_100 (pc := 90) 0 rfl hk0 dX3_listBag_90 ?_
          refine v_ishl (pc := 93) dX3_listBag_93 ?_
          refine v_goto (pc := 94) 98 dX3_listBag_94 (by decide) ?_
          exact V_sub [0, 1, 2, 3, 4] rfl (wX3_listBag_j98 hk0 hk1 hk2 hrec hx hf)
set_option maxRecDepth 20000 in
theorem wX3_listBag_l17 {G : Wc} {Γ : Cx} {o oa ob : Nat} {Sa : Ob} {Sb : Ob} (hk0 : kd o = 3) (hk1 : kd oa = 4) (hk2 : kd ob = 6) : ∀ (n : Nat) {l3 : Int32} {S : Ob} {r : Ob}, pX3_listBag_l17  Sa Sb n l3 S = some r → V cX3_listBag RX3 1 60 5 G Γ [(o, r), (oa, Sa), (ob, Sb)] 124 [] [] → V cX3_listBag RX3 1 60 5 G Γ [(o, S), (oa, Sa), (ob, Sb)] 17 [(0, .ref (wA G o 0)), (1, .ref (wA G oa 0)), (2, .ref (wA G ob 0)), (3, .int l3)] [] := by
  intro n
  induction n with
  | zero => intro l3 S r hf hx; unfold pX3_listBag_l17 at hf; cases hf
  | succ n ih =>
    intro l3 S r hf hx
    have hrec : ∀ {l3 : Int32} {S : Ob}, pX3_listBag_l17  Sa Sb n l3 S = some r → V cX3_listBag RX3 1 60 5 G Γ [(o, S), (oa, Sa), (ob, Sb)] 17 [(0, .ref (wA G o 0)), (1, .ref (wA G oa 0)), (2, .ref (wA G ob 0)), (3, .int l3)] [] := fun h => ih h hx
    clear ih
    unfold pX3_listBag_l17 at hf
    refine v_iload_n (pc := 17) 3 dX3_listBag_17 rfl ?_
    refine v_aload_n (pc := 18) 1 dX3_listBag_18 rfl ?_
    refine gf_RX3_109 (pc := 19) 1 rfl hk1 dX3_listBag_19 ?_
    refine v_icmp_ge (pc := 22) 124 dX3_listBag_22 (by decide) (fun c1 => ?_) (fun c1 => ?_)
    · replace hf := it_t c1 hf
      have hf2 := Option.some.inj hf; subst hf2
      exact V_sub [] rfl hx
    · replace hf := it_f c1 hf
      refine v_iconst (pc := 25) (0 : Int32) dX3_listBag_25 ci_0 ?_
      refine v_istore (pc := 26) [(4, _), (0, _), (1, _), (2, _), (3, _)] dX3_listBag_26 (Nat.le_of_ble_eq_true rfl) rfl ?_
      replace hf := bd_some hf; obtain ⟨r9, h10, hf⟩ := hf
      refine V_sub [1, 2, 3, 4, 0] rfl (wX3_listBag_l28 hk0 hk1 hk2 fu h10 ?_)
      refine v_iinc (pc := 118) 3 (l3 + (1 : Int32)) [(3, _), (0, _), (1, _), (2, _)] dX3_listBag_118 rfl (congrArg (fun z => _ + z) ci_1) (Nat.le_of_ble_eq_true rfl) rfl ?_
      refine v_goto (pc := 121) 17 dX3_listBag_121 (by decide) ?_
      exact V_sub [1, 2, 3, 0] rfl (hrec hf)
set_option maxRecDepth 20000 in
theorem kX3_listBag {G : Wc} {o oa ob : Nat} {S : Ob} {Sa : Ob} {Sb : Ob}  {r : Ob} (hk0 : kd o = 3) (hk1 : kd oa = 4) (hk2 : kd ob = 6) (hf : pX3_listBag S Sa Sb   = some r) : Cn yX3_listBag cX3_listBag 5 (none) 1 60 G [.ref (wA G o 0), .ref (wA G oa 0), .ref (wA G ob 0)] [(o, S), (oa, Sa), (ob, Sb)] [(o, r), (oa, Sa), (ob, Sb)] none := by
  refine V_method [(0, .ref (wA G o 0)), (1, .ref (wA G oa 0)), (2, .ref (wA G ob 0))] (by decide) rfl (Nat.le_of_ble_eq_true rfl) rfl (fun Γ hF => ?_)
  unfold pX3_listBag at hf
  refine v_aload_n (pc := 0) 0 dX3_listBag_0 rfl ?_
  refine v_iconst (pc := 1) (0 : Int32) dX3_listBag_1 ci_0 ?_
  refine pf_RX3_100 (pc := 2) [_, _, _] 0 rfl hk0 rfl dX3_listBag_2 ?_
  refine v_aload_n (pc := 5) 0 dX3_listBag_5 rfl ?_
  refine v_iconst (pc := 6) (0 : Int32) dX3_listBag_6 ci_0 ?_
  refine pf_RX3_103 (pc := 7) [_, _, _] 0 rfl hk0 rfl dX3_listBag_7 ?_
  refine v_aload_n (pc := 10) 0 dX3_listBag_10 rfl ?_
  refine v_iconst (pc := 11) (0 : Int32) dX3_listBag_11 ci_0 ?_
  refine pf_RX3_106 (pc := 12) [_, _, _] 0 rfl hk0 rfl dX3_listBag_12 ?_
  refine v_iconst (pc := 15) (0 : Int32) dX3_listBag_15 ci_0 ?_
  refine v_istore_n (pc := 16) [(3, _), (0, _), (1, _), (2, _)] dX3_listBag_16 (Nat.le_of_ble_eq_true rfl) rfl ?_
  replace hf := bd_some hf; obtain ⟨r11, h12, hf⟩ := hf
  refine V_sub [1, 2, 3, 0] rfl (wX3_listBag_l17 hk0 hk1 hk2 fu h12 ?_)
  have hf2 := Option.some.inj hf; subst hf2
  exact V_vret (pc := 124) hF dX3_listBag_124
set_option maxRecDepth 20000 in
theorem kX6_sleeps {G : Wc} {o oa : Nat} {S : Ob} {Sa : Ob} {b : Int32} {r : Int32} (hk0 : kd o = 6) (hk1 : kd oa = 4) (hf : pX6_sleeps S Sa  b = some r) : Cn yX6_sleeps cX6_sleeps 3 (some .boolean) 1 60 G [.ref (wA G o 0), .ref (wA G oa 0), .int b] [(o, S), (oa, Sa)] [(o, S), (oa, Sa)] (some (.int r)) := by
  refine V_method [(0, .ref (wA G o 0)), (1, .ref (wA G oa 0)), (2, .int b)] (by decide) rfl (Nat.le_of_ble_eq_true rfl) rfl (fun Γ hF => ?_)
  unfold pX6_sleeps at hf
  refine v_aload_n (pc := 0) 0 dX6_sleeps_0 rfl ?_
  refine gf_RX6_27 (pc := 1) 0 rfl hk0 dX6_sleeps_1 ?_
  refine v_iload_n (pc := 4) 2 dX6_sleeps_4 rfl ?_
  replace hf := gd_some hf; obtain ⟨g1, hf⟩ := hf
  refine al_X6_5 (pc := 5) _ 0 rfl hk0 rfl g1 dX6_sleeps_5 ?_
  refine v_aload_n (pc := 6) 1 dX6_sleeps_6 rfl ?_
  refine gf_RX6_78 (pc := 7) 1 rfl hk1 dX6_sleeps_7 ?_
  refine v_iload_n (pc := 10) 2 dX6_sleeps_10 rfl ?_
  replace hf := gd_some hf; obtain ⟨g2, hf⟩ := hf
  refine al_X4_13 (pc := 11) _ 1 rfl hk1 rfl g2 dX6_sleeps_11 ?_
  refine v_icmp_lt (pc := 12) 19 dX6_sleeps_12 (by decide) (fun c3 => ?_) (fun c3 => ?_)
  · replace hf := it_t c3 hf
    refine v_iconst (pc := 19) (0 : Int32) dX6_sleeps_19 ci_0 ?_
    have hf2 := Option.some.inj hf; subst hf2
    exact V_zret (pc := 20) hF rfl dX6_sleeps_20
  · replace hf := it_f c3 hf
    refine v_iconst (pc := 15) (1 : Int32) dX6_sleeps_15 ci_1 ?_
    refine v_goto (pc := 16) 20 dX6_sleeps_16 (by decide) ?_
    have hf2 := Option.some.inj hf; subst hf2
    exact V_zret (pc := 20) hF rfl dX6_sleeps_20
set_option maxRecDepth 20000 in
theorem wX6_allSleeping_l4 {G : Wc} {Γ : Cx} {o oa : Nat} {S : Ob} {Sa : Ob} (hk0 : kd o = 6) (hk1 : kd oa = 4) : ∀ (n : Nat) {l2 : Int32} {l3 : Int32} {r : Int32}, pX6_allSleeping_l4  S Sa n l2 l3 = some r → V cX6_allSleeping RX6 2 82 4 G Γ [(o, S), (oa, Sa)] 33 [(2, .int r)] [] → V cX6_allSleeping RX6 2 82 4 G Γ [(o, S), (oa, Sa)] 4 [(0, .ref (wA G o 0)), (1, .ref (wA G oa 0)), (2, .int l2), (3, .int l3)] [] := by
  intro n
  induction n with
  | zero => intro l2 l3 r hf hx; unfold pX6_allSleeping_l4 at hf; cases hf
  | succ n ih =>
    intro l2 l3 r hf hx
    have hrec : ∀ {l2 : Int32} {l3 : Int32}, pX6_allSleeping_l4  S Sa n l2 l3 = some r → V cX6_allSleeping RX6 2 82 4 G Γ [(o, S), (oa, Sa)] 4 [(0, .ref (wA G o 0)), (1, .ref (wA G oa 0)), (2, .int l2), (3, .int l3)] [] := fun h => ih h hx
    clear ih
    unfold pX6_allSleeping_l4 at hf
    refine v_iload_n (pc := 4) 3 dX6_allSleeping_4 rfl ?_
    refine v_aload_n (pc := 5) 1 dX6_allSleeping_5 rfl ?_
    refine gf_RX6_81 (pc := 6) 1 rfl hk1 dX6_allSleeping_6 ?_
    refine v_icmp_ge (pc := 9) 33 dX6_allSleeping_9 (by decide) (fun c1 => ?_) (fun c1 => ?_)
    · replace hf := it_t c1 hf
      have hf2 := Option.some.inj hf; subst hf2
      exact V_sub [2] rfl hx
    · replace hf := it_f c1 hf
      refine v_aload_n (pc := 12) 0 dX6_allSleeping_12 rfl ?_
      refine v_aload_n (pc := 13) 1 dX6_allSleeping_13 rfl ?_
      refine v_iload_n (pc := 14) 3 dX6_allSleeping_14 rfl ?_
      replace hf := bd_some hf; obtain ⟨r2, h3, hf⟩ := hf
      refine V_call (pc := 15) (us1 := [_, _]) [0, 1] 0 (kX6_sleeps (o := o) (oa := oa) hk0 hk1 h3) rfl rfl rfl rfl rfl hk0 (Nat.le_of_ble_eq_true rfl) rfl rfl rfl wm_RX6_84 md_X6_sleeps (Nat.le_of_ble_eq_true rfl) (Nat.le_of_ble_eq_true rfl) rfl rfl (Nat.le_of_ble_eq_true rfl) dX6_allSleeping_15 ?_
      refine v_if_eq (pc := 18) 27 dX6_allSleeping_18 (by decide) (fun c4 => ?_) (fun c4 => ?_)
      · replace hf := it_t c4 hf
        refine v_iinc (pc := 27) 3 (l3 + (1 : Int32)) [(3, _), (0, _), (1, _), (2, _)] dX6_allSleeping_27 rfl (congrArg (fun z => _ + z) ci_1) (Nat.le_of_ble_eq_true rfl) rfl ?_
        refine v_goto (pc := 30) 4 dX6_allSleeping_30 (by decide) ?_
        exact V_sub [1, 2, 3, 0] rfl (hrec hf)
      · replace hf := it_f c4 hf
        refine v_iload_n (pc := 21) 2 dX6_allSleeping_21 rfl ?_
        refine v_iconst (pc := 22) (1 : Int32) dX6_allSleeping_22 ci_1 ?_
        refine v_iload_n (pc := 23) 3 dX6_allSleeping_23 rfl ?_
        refine v_ishl (pc := 24) dX6_allSleeping_24 ?_
        refine v_ior (pc := 25) dX6_allSleeping_25 ?_
        refine v_istore_n (pc := 26) [(2, _), (0, _), (1, _), (3, _)] dX6_allSleeping_26 (Nat.le_of_ble_eq_true rfl) rfl ?_
        refine v_iinc (pc := 27) 3 (l3 + (1 : Int32)) [(3, _), (2, _), (0, _), (1, _)] dX6_allSleeping_27 rfl (congrArg (fun z => _ + z) ci_1) (Nat.le_of_ble_eq_true rfl) rfl ?_
        refine v_goto (pc := 30) 4 dX6_allSleeping_30 (by decide) ?_
        exact V_sub [2, 3, 1, 0] rfl (hrec hf)
set_option maxRecDepth 20000 in
theorem kX6_allSleeping {G : Wc} {o oa : Nat} {S : Ob} {Sa : Ob}  {r : Int32} (hk0 : kd o = 6) (hk1 : kd oa = 4) (hf : pX6_allSleeping S Sa   = some r) : Cn yX6_allSleeping cX6_allSleeping 4 (some .int) 2 82 G [.ref (wA G o 0), .ref (wA G oa 0)] [(o, S), (oa, Sa)] [(o, S), (oa, Sa)] (some (.int r)) := by
  refine V_method [(0, .ref (wA G o 0)), (1, .ref (wA G oa 0))] (by decide) rfl (Nat.le_of_ble_eq_true rfl) rfl (fun Γ hF => ?_)
  unfold pX6_allSleeping at hf
  refine v_iconst (pc := 0) (0 : Int32) dX6_allSleeping_0 ci_0 ?_
  refine v_istore_n (pc := 1) [(2, _), (0, _), (1, _)] dX6_allSleeping_1 (Nat.le_of_ble_eq_true rfl) rfl ?_
  refine v_iconst (pc := 2) (0 : Int32) dX6_allSleeping_2 ci_0 ?_
  refine v_istore_n (pc := 3) [(3, _), (2, _), (0, _), (1, _)] dX6_allSleeping_3 (Nat.le_of_ble_eq_true rfl) rfl ?_
  replace hf := bd_some hf; obtain ⟨r5, h6, hf⟩ := hf
  refine V_sub [2, 3, 1, 0] rfl (wX6_allSleeping_l4 hk0 hk1 fu h6 ?_)
  refine v_iload_n (pc := 33) 0 dX6_allSleeping_33 rfl ?_
  have hf2 := Option.some.inj hf; subst hf2
  exact V_iret (pc := 34) hF dX6_allSleeping_34
set_option maxRecDepth 20000 in
theorem kX3_takesFirstOfLikeOnes {G : Wc} {o : Nat} {S : Ob} {a : Int32} {r : Int32} (hk0 : kd o = 3) (hf : pX3_takesFirstOfLikeOnes S  a = some r) : Cn yX3_takesFirstOfLikeOnes cX3_takesFirstOfLikeOnes 2 (some .boolean) 1 60 G [.ref (wA G o 0), .int a] [(o, S)] [(o, S)] (some (.int r)) := by
  refine V_method [(0, .ref (wA G o 0)), (1, .int a)] (by decide) rfl (Nat.le_of_ble_eq_true rfl) rfl (fun Γ hF => ?_)
  unfold pX3_takesFirstOfLikeOnes at hf
  refine v_iload_n (pc := 0) 1 dX3_takesFirstOfLikeOnes_0 rfl ?_
  refine v_aload_n (pc := 1) 0 dX3_takesFirstOfLikeOnes_1 rfl ?_
  refine gf_RX3_106 (pc := 2) 0 rfl hk0 dX3_takesFirstOfLikeOnes_2 ?_
  refine v_iand (pc := 5) dX3_takesFirstOfLikeOnes_5 ?_
  refine v_iload_n (pc := 6) 1 dX3_takesFirstOfLikeOnes_6 rfl ?_
  refine v_iconst (pc := 7) (1 : Int32) dX3_takesFirstOfLikeOnes_7 ci_1 ?_
  refine v_ishl (pc := 8) dX3_takesFirstOfLikeOnes_8 ?_
  refine v_iconst (pc := 9) (-1 : Int32) dX3_takesFirstOfLikeOnes_9 ci_m1 ?_
  refine v_ixor (pc := 10) dX3_takesFirstOfLikeOnes_10 ?_
  refine v_iand (pc := 11) dX3_takesFirstOfLikeOnes_11 ?_
  refine v_if_ne (pc := 12) 19 dX3_takesFirstOfLikeOnes_12 (by decide) (fun c1 => ?_) (fun c1 => ?_)
  · replace hf := it_f c1 hf
    refine v_iconst (pc := 19) (0 : Int32) dX3_takesFirstOfLikeOnes_19 ci_0 ?_
    have hf2 := Option.some.inj hf; subst hf2
    exact V_zret (pc := 20) hF rfl dX3_takesFirstOfLikeOnes_20
  · replace hf := it_t c1 hf
    refine v_iconst (pc := 15) (1 : Int32) dX3_takesFirstOfLikeOnes_15 ci_1 ?_
    refine v_goto (pc := 16) 20 dX3_takesFirstOfLikeOnes_16 (by decide) ?_
    have hf2 := Option.some.inj hf; subst hf2
    exact V_zret (pc := 20) hF rfl dX3_takesFirstOfLikeOnes_20
set_option maxRecDepth 20000 in
theorem kX3_fillOn {G : Wc} {o : Nat} {S : Ob} {a : Int32} {b : Int32} {c : Int32} {r : Int32} (hk0 : kd o = 3) (hf : pX3_fillOn S  a b c = some r) : Cn yX3_fillOn cX3_fillOn 6 (some .int) 1 60 G [.ref (wA G o 0), .int a, .int b, .int c] [(o, S)] [(o, S)] (some (.int r)) := by
  refine V_method [(0, .ref (wA G o 0)), (1, .int a), (2, .int b), (3, .int c)] (by decide) rfl (Nat.le_of_ble_eq_true rfl) rfl (fun Γ hF => ?_)
  unfold pX3_fillOn at hf
  refine v_iload_n (pc := 0) 1 dX3_fillOn_0 rfl ?_
  refine v_bipush (pc := 1) (7 : Int32) dX3_fillOn_1 cb_7 ?_
  refine v_ishr (pc := 3) dX3_fillOn_3 ?_
  refine v_istore (pc := 4) [(4, _), (0, _), (1, _), (2, _), (3, _)] dX3_fillOn_4 (Nat.le_of_ble_eq_true rfl) rfl ?_
  refine v_iload (pc := 6) 0 dX3_fillOn_6 rfl ?_
  refine v_iload_n (pc := 8) 4 dX3_fillOn_8 rfl ?_
  refine v_icmp_ge (pc := 9) 18 dX3_fillOn_9 (by decide) (fun c1 => ?_) (fun c1 => ?_)
  · replace hf := it_t c1 hf
    refine v_iload_n (pc := 18) 2 dX3_fillOn_18 rfl ?_
    have hf2 := Option.some.inj hf; subst hf2
    exact V_iret (pc := 19) hF dX3_fillOn_19
  · replace hf := it_f c1 hf
    refine v_iload (pc := 12) 0 dX3_fillOn_12 rfl ?_
    refine v_iconst (pc := 14) (4 : Int32) dX3_fillOn_14 ci_4 ?_
    refine v_icmp_lt (pc := 15) 20 dX3_fillOn_15 (by decide) (fun c2 => ?_) (fun c2 => ?_)
    · replace hf := it_t c2 hf
      refine v_iload_n (pc := 20) 2 dX3_fillOn_20 rfl ?_
      refine v_bipush (pc := 21) (127 : Int32) dX3_fillOn_21 cb_127 ?_
      refine v_iand (pc := 23) dX3_fillOn_23 ?_
      refine v_iload_n (pc := 24) 3 dX3_fillOn_24 rfl ?_
      refine v_iadd (pc := 25) dX3_fillOn_25 ?_
      refine v_istore (pc := 26) [(5, _), (4, _), (0, _), (1, _), (2, _), (3, _)] dX3_fillOn_26 (Nat.le_of_ble_eq_true rfl) rfl ?_
      refine v_iload (pc := 28) 0 dX3_fillOn_28 rfl ?_
      refine v_aload_n (pc := 30) 2 dX3_fillOn_30 rfl ?_
      refine gf_RX3_18 (pc := 31) 0 rfl hk0 dX3_fillOn_31 ?_
      refine v_iload (pc := 34) 1 dX3_fillOn_34 rfl ?_
      replace hf := gd_some hf; obtain ⟨g3, hf⟩ := hf
      refine al_X3_5 (pc := 36) _ 0 rfl hk0 rfl g3 dX3_fillOn_36 ?_
      refine v_icmp_lt (pc := 37) 50 dX3_fillOn_37 (by decide) (fun c4 => ?_) (fun c4 => ?_)
      · replace hf := it_t c4 hf
        refine v_iload (pc := 50) 1 dX3_fillOn_50 rfl ?_
        refine v_bipush (pc := 52) (7 : Int32) dX3_fillOn_52 cb_7 ?_
        refine v_ishl (pc := 54) dX3_fillOn_54 ?_
        refine v_iload (pc := 55) 0 dX3_fillOn_55 rfl ?_
        refine v_ior (pc := 57) dX3_fillOn_57 ?_
        have hf2 := Option.some.inj hf; subst hf2
        exact V_iret (pc := 58) hF dX3_fillOn_58
      · replace hf := it_f c4 hf
        refine v_iload (pc := 40) 1 dX3_fillOn_40 rfl ?_
        refine v_iconst (pc := 42) (1 : Int32) dX3_fillOn_42 ci_1 ?_
        refine v_iadd (pc := 43) dX3_fillOn_43 ?_
        refine v_bipush (pc := 44) (7 : Int32) dX3_fillOn_44 cb_7 ?_
        refine v_ishl (pc := 46) dX3_fillOn_46 ?_
        refine v_goto (pc := 47) 58 dX3_fillOn_47 (by decide) ?_
        have hf2 := Option.some.inj hf; subst hf2
        exact V_iret (pc := 58) hF dX3_fillOn_58
    · replace hf := it_f c2 hf
      refine v_iload_n (pc := 18) 2 dX3_fillOn_18 rfl ?_
      have hf2 := Option.some.inj hf; subst hf2
      exact V_iret (pc := 19) hF dX3_fillOn_19
set_option maxRecDepth 20000 in
theorem wX3_bestFill_l5 {G : Wc} {Γ : Cx} {o : Nat} {S : Ob} {l1 : Int32} {l2 : Int32} (hk0 : kd o = 3) : ∀ (n : Nat) {l3 : Int32} {l4 : Int32} {r : Int32}, pX3_bestFill_l5  S l1 l2 n l3 l4 = some r → V cX3_bestFill RX3 2 85 6 G Γ [(o, S)] 69 [(3, .int r)] [] → V cX3_bestFill RX3 2 85 6 G Γ [(o, S)] 5 [(0, .ref (wA G o 0)), (1, .int l1), (2, .int l2), (3, .int l3), (4, .int l4)] [] := by
  intro n
  induction n with
  | zero => intro l3 l4 r hf hx; unfold pX3_bestFill_l5 at hf; cases hf
  | succ n ih =>
    intro l3 l4 r hf hx
    have hrec : ∀ {l3 : Int32} {l4 : Int32}, pX3_bestFill_l5  S l1 l2 n l3 l4 = some r → V cX3_bestFill RX3 2 85 6 G Γ [(o, S)] 5 [(0, .ref (wA G o 0)), (1, .int l1), (2, .int l2), (3, .int l3), (4, .int l4)] [] := fun h => ih h hx
    clear ih
    unfold pX3_bestFill_l5 at hf
    refine v_iload (pc := 5) 4 dX3_bestFill_5 rfl ?_
    refine v_aload_n (pc := 7) 0 dX3_bestFill_7 rfl ?_
    refine gf_RX3_100 (pc := 8) 0 rfl hk0 dX3_bestFill_8 ?_
    refine v_icmp_ge (pc := 11) 69 dX3_bestFill_11 (by decide) (fun c1 => ?_) (fun c1 => ?_)
    · replace hf := it_t c1 hf
      have hf2 := Option.some.inj hf; subst hf2
      exact V_sub [3] rfl hx
    · replace hf := it_f c1 hf
      refine v_iload_n (pc := 14) 1 dX3_bestFill_14 rfl ?_
      refine v_iconst (pc := 15) (1 : Int32) dX3_bestFill_15 ci_1 ?_
      refine v_iload (pc := 16) 4 dX3_bestFill_16 rfl ?_
      refine v_ishl (pc := 18) dX3_bestFill_18 ?_
      refine v_iconst (pc := 19) (-1 : Int32) dX3_bestFill_19 ci_m1 ?_
      refine v_ixor (pc := 20) dX3_bestFill_20 ?_
      refine v_iand (pc := 21) dX3_bestFill_21 ?_
      refine v_istore (pc := 22) [(5, _), (0, _), (1, _), (2, _), (3, _), (4, _)] dX3_bestFill_22 (Nat.le_of_ble_eq_true rfl) rfl ?_
      refine v_iload (pc := 24) 0 dX3_bestFill_24 rfl ?_
      refine v_iload_n (pc := 26) 2 dX3_bestFill_26 rfl ?_
      refine v_icmp_eq (pc := 27) 63 dX3_bestFill_27 (by decide) (fun c2 => ?_) (fun c2 => ?_)
      · replace hf := it_t c2 hf
        refine v_iinc (pc := 63) 5 (l4 + (1 : Int32)) [(4, _), (5, _), (0, _), (1, _), (2, _), (3, _)] dX3_bestFill_63 rfl (congrArg (fun z => _ + z) ci_1) (Nat.le_of_ble_eq_true rfl) rfl ?_
        refine v_goto (pc := 66) 5 dX3_bestFill_66 (by decide) ?_
        exact V_sub [2, 3, 4, 5, 0] rfl (hrec hf)
      · replace hf := it_f c2 hf
        refine v_aload_n (pc := 30) 1 dX3_bestFill_30 rfl ?_
        refine v_iload (pc := 31) 0 dX3_bestFill_31 rfl ?_
        replace hf := bd_some hf; obtain ⟨r3, h4, hf⟩ := hf
        refine V_call (pc := 33) (us1 := [_]) [0] 0 (kX3_takesFirstOfLikeOnes (o := o) hk0 h4) rfl rfl rfl rfl rfl hk0 (Nat.le_of_ble_eq_true rfl) rfl rfl rfl wm_RX3_129 md_X3_takesFirstOfLikeOnes (Nat.le_of_ble_eq_true rfl) (Nat.le_of_ble_eq_true rfl) rfl rfl (Nat.le_of_ble_eq_true rfl) dX3_bestFill_33 ?_
        refine v_if_eq (pc := 36) 63 dX3_bestFill_36 (by decide) (fun c5 => ?_) (fun c5 => ?_)
        · replace hf := it_t c5 hf
          refine v_iinc (pc := 63) 5 (l4 + (1 : Int32)) [(4, _), (5, _), (0, _), (1, _), (2, _), (3, _)] dX3_bestFill_63 rfl (congrArg (fun z => _ + z) ci_1) (Nat.le_of_ble_eq_true rfl) rfl ?_
          refine v_goto (pc := 66) 5 dX3_bestFill_66 (by decide) ?_
          exact V_sub [2, 3, 4, 5, 0] rfl (hrec hf)
        · replace hf := it_f c5 hf
          refine v_iload_n (pc := 39) 4 dX3_bestFill_39 rfl ?_
          refine v_aload_n (pc := 40) 1 dX3_bestFill_40 rfl ?_
          refine v_aload_n (pc := 41) 1 dX3_bestFill_41 rfl ?_
          refine gf_RX3_9 (pc := 42) 0 rfl hk0 dX3_bestFill_42 ?_
          refine v_iload (pc := 45) 0 dX3_bestFill_45 rfl ?_
          replace hf := gd_some hf; obtain ⟨g6, hf⟩ := hf
          refine al_X3_0 (pc := 47) _ 0 rfl hk0 rfl g6 dX3_bestFill_47 ?_
          refine v_aload_n (pc := 48) 1 dX3_bestFill_48 rfl ?_
          refine gf_RX3_15 (pc := 49) 0 rfl hk0 dX3_bestFill_49 ?_
          refine v_iload (pc := 52) 5 dX3_bestFill_52 rfl ?_
          replace hf := gd_some hf; obtain ⟨g7, hf⟩ := hf
          refine al_X3_1 (pc := 54) _ 0 rfl hk0 rfl g7 dX3_bestFill_54 ?_
          refine v_iload_n (pc := 55) 3 dX3_bestFill_55 rfl ?_
          replace hf := bd_some hf; obtain ⟨r8, h9, hf⟩ := hf
          refine V_call (pc := 56) (us1 := [_]) [0] 0 (kX3_fillOn (o := o) hk0 h9) rfl rfl rfl rfl rfl hk0 (Nat.le_of_ble_eq_true rfl) rfl rfl rfl wm_RX3_136 md_X3_fillOn (Nat.le_of_ble_eq_true rfl) (Nat.le_of_ble_eq_true rfl) rfl rfl (Nat.le_of_ble_eq_true rfl) dX3_bestFill_56 ?_
          refine v_mmax (pc := 59) wm_RX3_140 (Nat.le_of_ble_eq_true rfl) (Nat.le_of_ble_eq_true rfl) (Nat.le_of_ble_eq_true rfl) dX3_bestFill_59 ?_
          refine v_istore_n (pc := 62) [(3, _), (5, _), (0, _), (1, _), (2, _), (4, _)] dX3_bestFill_62 (Nat.le_of_ble_eq_true rfl) rfl ?_
          refine v_iinc (pc := 63) 5 (l4 + (1 : Int32)) [(4, _), (3, _), (5, _), (0, _), (1, _), (2, _)] dX3_bestFill_63 rfl (congrArg (fun z => _ + z) ci_1) (Nat.le_of_ble_eq_true rfl) rfl ?_
          refine v_goto (pc := 66) 5 dX3_bestFill_66 (by decide) ?_
          exact V_sub [3, 4, 5, 1, 0] rfl (hrec hf)
set_option maxRecDepth 20000 in
theorem kX3_bestFill {G : Wc} {o : Nat} {S : Ob} {a : Int32} {b : Int32} {r : Int32} (hk0 : kd o = 3) (hf : pX3_bestFill S  a b = some r) : Cn yX3_bestFill cX3_bestFill 6 (some .int) 2 85 G [.ref (wA G o 0), .int a, .int b] [(o, S)] [(o, S)] (some (.int r)) := by
  refine V_method [(0, .ref (wA G o 0)), (1, .int a), (2, .int b)] (by decide) rfl (Nat.le_of_ble_eq_true rfl) rfl (fun Γ hF => ?_)
  unfold pX3_bestFill at hf
  refine v_iconst (pc := 0) (0 : Int32) dX3_bestFill_0 ci_0 ?_
  refine v_istore_n (pc := 1) [(3, _), (0, _), (1, _), (2, _)] dX3_bestFill_1 (Nat.le_of_ble_eq_true rfl) rfl ?_
  refine v_iconst (pc := 2) (0 : Int32) dX3_bestFill_2 ci_0 ?_
  refine v_istore (pc := 3) [(4, _), (3, _), (0, _), (1, _), (2, _)] dX3_bestFill_3 (Nat.le_of_ble_eq_true rfl) rfl ?_
  replace hf := bd_some hf; obtain ⟨r10, h11, hf⟩ := hf
  refine V_sub [2, 3, 4, 1, 0] rfl (wX3_bestFill_l5 hk0 fu h11 ?_)
  refine v_iload_n (pc := 69) 0 dX3_bestFill_69 rfl ?_
  have hf2 := Option.some.inj hf; subst hf2
  exact V_iret (pc := 70) hF dX3_bestFill_70
set_option maxRecDepth 20000 in
theorem wX3_mostFilled_l18 {G : Wc} {Γ : Cx} {o : Nat} {l1 : Int32} {l2 : Int32} (hk0 : kd o = 3) : ∀ (n : Nat) {l3 : Int32} {S : Ob} {r : Ob}, pX3_mostFilled_l18  l1 l2 n l3 S = some r → V cX3_mostFilled RX3 3 110 4 G Γ [(o, r)] 49 [(0, .ref (wA G o 0)), (2, .int l2)] [] → V cX3_mostFilled RX3 3 110 4 G Γ [(o, S)] 18 [(0, .ref (wA G o 0)), (1, .int l1), (2, .int l2), (3, .int l3)] [] := by
  intro n
  induction n with
  | zero => intro l3 S r hf hx; unfold pX3_mostFilled_l18 at hf; cases hf
  | succ n ih =>
    intro l3 S r hf hx
    have hrec : ∀ {l3 : Int32} {S : Ob}, pX3_mostFilled_l18  l1 l2 n l3 S = some r → V cX3_mostFilled RX3 3 110 4 G Γ [(o, S)] 18 [(0, .ref (wA G o 0)), (1, .int l1), (2, .int l2), (3, .int l3)] [] := fun h => ih h hx
    clear ih
    unfold pX3_mostFilled_l18 at hf
    refine v_iload_n (pc := 18) 3 dX3_mostFilled_18 rfl ?_
    refine v_iload_n (pc := 19) 2 dX3_mostFilled_19 rfl ?_
    refine v_icmp_gt (pc := 20) 49 dX3_mostFilled_20 (by decide) (fun c1 => ?_) (fun c1 => ?_)
    · replace hf := it_t c1 hf
      have hf2 := Option.some.inj hf; subst hf2
      exact V_sub [0, 2] rfl hx
    · replace hf := it_f c1 hf
      refine v_aload_n (pc := 23) 0 dX3_mostFilled_23 rfl ?_
      refine v_iload_n (pc := 24) 3 dX3_mostFilled_24 rfl ?_
      replace hf := bd_some hf; obtain ⟨r2, h3, hf⟩ := hf
      refine V_call (pc := 25) (us1 := [_]) [0] 0 (kX3_takesFirstOfLikeOnes (o := o) hk0 h3) rfl rfl rfl rfl rfl hk0 (Nat.le_of_ble_eq_true rfl) rfl rfl rfl wm_RX3_129 md_X3_takesFirstOfLikeOnes (Nat.le_of_ble_eq_true rfl) (Nat.le_of_ble_eq_true rfl) rfl rfl (Nat.le_of_ble_eq_true rfl) dX3_mostFilled_25 ?_
      refine v_if_eq (pc := 28) 43 dX3_mostFilled_28 (by decide) (fun c4 => ?_) (fun c4 => ?_)
      · replace hf := it_t c4 hf
        refine v_iinc (pc := 43) 3 (l3 + (1 : Int32)) [(3, _), (0, _), (1, _), (2, _)] dX3_mostFilled_43 rfl (congrArg (fun z => _ + z) ci_1) (Nat.le_of_ble_eq_true rfl) rfl ?_
        refine v_goto (pc := 46) 18 dX3_mostFilled_46 (by decide) ?_
        exact V_sub [1, 2, 3, 0] rfl (hrec hf)
      · replace hf := it_f c4 hf
        refine v_aload_n (pc := 31) 0 dX3_mostFilled_31 rfl ?_
        refine gf_RX3_9 (pc := 32) 0 rfl hk0 dX3_mostFilled_32 ?_
        refine v_iload_n (pc := 35) 3 dX3_mostFilled_35 rfl ?_
        refine v_aload_n (pc := 36) 0 dX3_mostFilled_36 rfl ?_
        refine v_iload_n (pc := 37) 3 dX3_mostFilled_37 rfl ?_
        refine v_iload_n (pc := 38) 1 dX3_mostFilled_38 rfl ?_
        replace hf := bd_some hf; obtain ⟨r5, h6, hf⟩ := hf
        refine V_call (pc := 39) (us1 := [_]) [0] 0 (kX3_bestFill (o := o) hk0 h6) rfl rfl rfl rfl rfl hk0 (Nat.le_of_ble_eq_true rfl) rfl rfl rfl wm_RX3_133 md_X3_bestFill (Nat.le_of_ble_eq_true rfl) (Nat.le_of_ble_eq_true rfl) rfl rfl (Nat.le_of_ble_eq_true rfl) dX3_mostFilled_39 ?_
        replace hf := gd_some hf; obtain ⟨g7, hf⟩ := hf
        refine as_X3_0 (pc := 42) [_] _ 0 rfl hk0 rfl g7 rfl dX3_mostFilled_42 ?_
        refine v_iinc (pc := 43) 3 (l3 + (1 : Int32)) [(3, _), (0, _), (1, _), (2, _)] dX3_mostFilled_43 rfl (congrArg (fun z => _ + z) ci_1) (Nat.le_of_ble_eq_true rfl) rfl ?_
        refine v_goto (pc := 46) 18 dX3_mostFilled_46 (by decide) ?_
        exact V_sub [1, 2, 3, 0] rfl (hrec hf)
set_option maxRecDepth 20000 in
theorem kX3_mostFilled {G : Wc} {o : Nat} {S : Ob} {a : Int32} {r : Int32 × Ob} (hk0 : kd o = 3) (hf : pX3_mostFilled S  a = some r) : Cn yX3_mostFilled cX3_mostFilled 4 (some .int) 3 110 G [.ref (wA G o 0), .int a] [(o, S)] [(o, r.2)] (some (.int r.1)) := by
  refine V_method [(0, .ref (wA G o 0)), (1, .int a)] (by decide) rfl (Nat.le_of_ble_eq_true rfl) rfl (fun Γ hF => ?_)
  unfold pX3_mostFilled at hf
  refine v_aload_n (pc := 0) 0 dX3_mostFilled_0 rfl ?_
  refine gf_RX3_9 (pc := 1) 0 rfl hk0 dX3_mostFilled_1 ?_
  refine v_iconst (pc := 4) (0 : Int32) dX3_mostFilled_4 ci_0 ?_
  refine v_iconst (pc := 5) (0 : Int32) dX3_mostFilled_5 ci_0 ?_
  refine as_X3_0 (pc := 6) [_] 0 0 rfl hk0 rfl ib_0_1024 rfl dX3_mostFilled_6 ?_
  refine v_iconst (pc := 7) (1 : Int32) dX3_mostFilled_7 ci_1 ?_
  refine v_aload_n (pc := 8) 0 dX3_mostFilled_8 rfl ?_
  refine gf_RX3_100 (pc := 9) 0 rfl hk0 dX3_mostFilled_9 ?_
  refine v_ishl (pc := 12) dX3_mostFilled_12 ?_
  refine v_iconst (pc := 13) (1 : Int32) dX3_mostFilled_13 ci_1 ?_
  refine v_isub (pc := 14) dX3_mostFilled_14 ?_
  refine v_istore_n (pc := 15) [(2, _), (0, _), (1, _)] dX3_mostFilled_15 (Nat.le_of_ble_eq_true rfl) rfl ?_
  refine v_iconst (pc := 16) (1 : Int32) dX3_mostFilled_16 ci_1 ?_
  refine v_istore_n (pc := 17) [(3, _), (2, _), (0, _), (1, _)] dX3_mostFilled_17 (Nat.le_of_ble_eq_true rfl) rfl ?_
  replace hf := bd_some hf; obtain ⟨r8, h9, hf⟩ := hf
  refine V_sub [2, 3, 1, 0] rfl (wX3_mostFilled_l18 hk0 fu h9 ?_)
  refine v_aload_n (pc := 49) 0 dX3_mostFilled_49 rfl ?_
  refine gf_RX3_9 (pc := 50) 0 rfl hk0 dX3_mostFilled_50 ?_
  refine v_iload_n (pc := 53) 1 dX3_mostFilled_53 rfl ?_
  replace hf := gd_some hf; obtain ⟨g10, hf⟩ := hf
  refine al_X3_0 (pc := 54) _ 0 rfl hk0 rfl g10 dX3_mostFilled_54 ?_
  refine v_bipush (pc := 55) (7 : Int32) dX3_mostFilled_55 cb_7 ?_
  refine v_ishr (pc := 57) dX3_mostFilled_57 ?_
  have hf2 := Option.some.inj hf; subst hf2
  exact V_iret (pc := 58) hF dX3_mostFilled_58
set_option maxRecDepth 20000 in
theorem wX3_canFill_l9 {G : Wc} {Γ : Cx} {o oa ob : Nat} {Sa : Ob} {Sb : Ob} {l3 : Int32} (hk0 : kd o = 3) (hk1 : kd oa = 4) (hk2 : kd ob = 6) : ∀ (n : Nat) {l4 : Int32} {l5 : Int32} {l6 : Int32} {S : Ob} {r : Int32 × Int32 × Ob}, pX3_canFill_l9  Sa Sb l3 n l4 l5 l6 S = some r → V cX3_canFill RX3 4 133 7 G Γ [(o, r.2.2), (oa, Sa), (ob, Sb)] 81 [(0, .ref (wA G o 0)), (4, .int r.1), (5, .int r.2.1)] [] → V cX3_canFill RX3 4 133 7 G Γ [(o, S), (oa, Sa), (ob, Sb)] 9 [(0, .ref (wA G o 0)), (1, .ref (wA G oa 0)), (2, .ref (wA G ob 0)), (3, .int l3), (4, .int l4), (5, .int l5), (6, .int l6)] [] := by
  intro n
  induction n with
  | zero => intro l4 l5 l6 S r hf hx; unfold pX3_canFill_l9 at hf; cases hf
  | succ n ih =>
    intro l4 l5 l6 S r hf hx
    have hrec : ∀ {l4 : Int32} {l5 : Int32} {l6 : Int32} {S : Ob}, pX3_canFill_l9  Sa Sb l3 n l4 l5 l6 S = some r → V cX3_canFill RX3 4 133 7 G Γ [(o, S), (oa, Sa), (ob, Sb)] 9 [(0, .ref (wA G o 0)), (1, .ref (wA G oa 0)), (2, .ref (wA G ob 0)), (3, .int l3), (4, .int l4), (5, .int l5), (6, .int l6)] [] := fun h => ih h hx
    clear ih
    unfold pX3_canFill_l9 at hf
    refine v_iload (pc := 9) 6 dX3_canFill_9 rfl ?_
    refine v_aload_n (pc := 11) 1 dX3_canFill_11 rfl ?_
    refine gf_RX3_93 (pc := 12) 1 rfl hk1 dX3_canFill_12 ?_
    refine v_icmp_ge (pc := 15) 81 dX3_canFill_15 (by decide) (fun c1 => ?_) (fun c1 => ?_)
    · replace hf := it_t c1 hf
      have hf2 := Option.some.inj hf; subst hf2
      exact V_sub [0, 4, 5] rfl hx
    · replace hf := it_f c1 hf
      refine v_iload_n (pc := 18) 3 dX3_canFill_18 rfl ?_
      refine v_iload (pc := 19) 6 dX3_canFill_19 rfl ?_
      refine v_ishr (pc := 21) dX3_canFill_21 ?_
      refine v_iconst (pc := 22) (1 : Int32) dX3_canFill_22 ci_1 ?_
      refine v_iand (pc := 23) dX3_canFill_23 ?_
      refine v_iconst (pc := 24) (1 : Int32) dX3_canFill_24 ci_1 ?_
      refine v_icmp_ne (pc := 25) 75 dX3_canFill_25 (by decide) (fun c2 => ?_) (fun c2 => ?_)
      · replace hf := it_f c2 hf
        refine v_iinc (pc := 75) 6 (l6 + (1 : Int32)) [(6, _), (0, _), (1, _), (2, _), (3, _), (4, _), (5, _)] dX3_canFill_75 rfl (congrArg (fun z => _ + z) ci_1) (Nat.le_of_ble_eq_true rfl) rfl ?_
        refine v_goto (pc := 78) 9 dX3_canFill_78 (by decide) ?_
        exact V_sub [1, 2, 3, 4, 5, 6, 0] rfl (hrec hf)
      · replace hf := it_t c2 hf
        refine v_aload_n (pc := 28) 2 dX3_canFill_28 rfl ?_
        refine v_aload_n (pc := 29) 1 dX3_canFill_29 rfl ?_
        refine v_iload (pc := 30) 6 dX3_canFill_30 rfl ?_
        replace hf := bd_some hf; obtain ⟨r3, h4, hf⟩ := hf
        refine V_call (pc := 32) (us1 := [_, _, _]) [2, 1] 2 (kX6_sleeps (o := ob) (oa := oa) hk2 hk1 h4) rfl rfl rfl rfl rfl hk2 (Nat.le_of_ble_eq_true rfl) rfl rfl rfl wm_RX3_118 md_X6_sleeps (Nat.le_of_ble_eq_true rfl) (Nat.le_of_ble_eq_true rfl) rfl rfl (Nat.le_of_ble_eq_true rfl) dX3_canFill_32 ?_
        refine v_if_ne (pc := 35) 75 dX3_canFill_35 (by decide) (fun c5 => ?_) (fun c5 => ?_)
        · replace hf := it_f c5 hf
          refine v_iinc (pc := 75) 6 (l6 + (1 : Int32)) [(6, _), (0, _), (1, _), (2, _), (3, _), (4, _), (5, _)] dX3_canFill_75 rfl (congrArg (fun z => _ + z) ci_1) (Nat.le_of_ble_eq_true rfl) rfl ?_
          refine v_goto (pc := 78) 9 dX3_canFill_78 (by decide) ?_
          exact V_sub [1, 2, 3, 4, 5, 6, 0] rfl (hrec hf)
        · replace hf := it_t c5 hf
          refine v_aload_n (pc := 38) 0 dX3_canFill_38 rfl ?_
          refine gf_RX3_18 (pc := 39) 0 rfl hk0 dX3_canFill_39 ?_
          refine v_iload (pc := 42) 4 dX3_canFill_42 rfl ?_
          refine v_aload_n (pc := 44) 1 dX3_canFill_44 rfl ?_
          refine gf_RX3_122 (pc := 45) 1 rfl hk1 dX3_canFill_45 ?_
          refine v_iload (pc := 48) 6 dX3_canFill_48 rfl ?_
          replace hf := gd_some hf; obtain ⟨g6, hf⟩ := hf
          refine al_X4_13 (pc := 50) _ 1 rfl hk1 rfl g6 dX3_canFill_50 ?_
          refine v_aload_n (pc := 51) 2 dX3_canFill_51 rfl ?_
          refine gf_RX3_125 (pc := 52) 2 rfl hk2 dX3_canFill_52 ?_
          refine v_iload (pc := 55) 6 dX3_canFill_55 rfl ?_
          replace hf := gd_some hf; obtain ⟨g7, hf⟩ := hf
          refine al_X6_5 (pc := 57) _ 2 rfl hk2 rfl g7 dX3_canFill_57 ?_
          refine v_isub (pc := 58) dX3_canFill_58 ?_
          replace hf := gd_some hf; obtain ⟨g8, hf⟩ := hf
          refine as_X3_5 (pc := 59) [_, _, _] _ 0 rfl hk0 rfl g8 rfl dX3_canFill_59 ?_
          refine v_iload (pc := 60) 5 dX3_canFill_60 rfl ?_
          refine v_aload_n (pc := 62) 0 dX3_canFill_62 rfl ?_
          refine gf_RX3_18 (pc := 63) 0 rfl hk0 dX3_canFill_63 ?_
          refine v_iload (pc := 66) 4 dX3_canFill_66 rfl ?_
          replace hf := gd_some hf; obtain ⟨g9, hf⟩ := hf
          refine al_X3_5 (pc := 68) _ 0 rfl hk0 rfl g9 dX3_canFill_68 ?_
          refine v_iadd (pc := 69) dX3_canFill_69 ?_
          refine v_istore (pc := 70) [(5, _), (0, _), (1, _), (2, _), (3, _), (4, _), (6, _)] dX3_canFill_70 (Nat.le_of_ble_eq_true rfl) rfl ?_
          refine v_iinc (pc := 72) 5 (l4 + (1 : Int32)) [(4, _), (5, _), (0, _), (1, _), (2, _), (3, _), (6, _)] dX3_canFill_72 rfl (congrArg (fun z => _ + z) ci_1) (Nat.le_of_ble_eq_true rfl) rfl ?_
          refine v_iinc (pc := 75) 6 (l6 + (1 : Int32)) [(6, _), (4, _), (5, _), (0, _), (1, _), (2, _), (3, _)] dX3_canFill_75 rfl (congrArg (fun z => _ + z) ci_1) (Nat.le_of_ble_eq_true rfl) rfl ?_
          refine v_goto (pc := 78) 9 dX3_canFill_78 (by decide) ?_
          exact V_sub [3, 4, 5, 6, 1, 2, 0] rfl (hrec hf)
set_option maxRecDepth 20000 in
theorem kX3_canFill {G : Wc} {o oa ob : Nat} {S : Ob} {Sa : Ob} {Sb : Ob} {c : Int32} {r : Int32 × Ob} (hk0 : kd o = 3) (hk1 : kd oa = 4) (hk2 : kd ob = 6) (hf : pX3_canFill S Sa Sb  c = some r) : Cn yX3_canFill cX3_canFill 7 (some .boolean) 4 133 G [.ref (wA G o 0), .ref (wA G oa 0), .ref (wA G ob 0), .int c] [(o, S), (oa, Sa), (ob, Sb)] [(o, r.2), (oa, Sa), (ob, Sb)] (some (.int r.1)) := by
  refine V_method [(0, .ref (wA G o 0)), (1, .ref (wA G oa 0)), (2, .ref (wA G ob 0)), (3, .int c)] (by decide) rfl (Nat.le_of_ble_eq_true rfl) rfl (fun Γ hF => ?_)
  unfold pX3_canFill at hf
  refine v_iconst (pc := 0) (0 : Int32) dX3_canFill_0 ci_0 ?_
  refine v_istore (pc := 1) [(4, _), (0, _), (1, _), (2, _), (3, _)] dX3_canFill_1 (Nat.le_of_ble_eq_true rfl) rfl ?_
  refine v_iconst (pc := 3) (0 : Int32) dX3_canFill_3 ci_0 ?_
  refine v_istore (pc := 4) [(5, _), (4, _), (0, _), (1, _), (2, _), (3, _)] dX3_canFill_4 (Nat.le_of_ble_eq_true rfl) rfl ?_
  refine v_iconst (pc := 6) (0 : Int32) dX3_canFill_6 ci_0 ?_
  refine v_istore (pc := 7) [(6, _), (5, _), (4, _), (0, _), (1, _), (2, _), (3, _)] dX3_canFill_7 (Nat.le_of_ble_eq_true rfl) rfl ?_
  replace hf := bd_some hf; obtain ⟨r10, h11, hf⟩ := hf
  refine V_sub [3, 4, 5, 6, 2, 1, 0] rfl (wX3_canFill_l9 hk0 hk1 hk2 fu h11 ?_)
  refine v_iload (pc := 81) 2 dX3_canFill_81 rfl ?_
  refine v_aload_n (pc := 83) 0 dX3_canFill_83 rfl ?_
  refine gf_RX3_103 (pc := 84) 0 rfl hk0 dX3_canFill_84 ?_
  refine v_icmp_gt (pc := 87) 105 dX3_canFill_87 (by decide) (fun c12 => ?_) (fun c12 => ?_)
  · replace hf := it_t c12 hf
    refine v_iconst (pc := 105) (0 : Int32) dX3_canFill_105 ci_0 ?_
    have hf2 := Option.some.inj hf; subst hf2
    exact V_zret (pc := 106) hF rfl dX3_canFill_106
  · replace hf := it_f c12 hf
    refine v_aload_n (pc := 90) 0 dX3_canFill_90 rfl ?_
    refine v_iload (pc := 91) 1 dX3_canFill_91 rfl ?_
    replace hf := bd_some hf; obtain ⟨r13, h14, hf⟩ := hf
    refine V_call (pc := 93) (us1 := [_, _, _]) [0] 0 (kX3_mostFilled (o := o) hk0 h14) rfl rfl rfl rfl rfl hk0 (Nat.le_of_ble_eq_true rfl) rfl rfl rfl wm_RX3_126 md_X3_mostFilled (Nat.le_of_ble_eq_true rfl) (Nat.le_of_ble_eq_true rfl) rfl rfl (Nat.le_of_ble_eq_true rfl) dX3_canFill_93 ?_
    refine v_iload (pc := 96) 1 dX3_canFill_96 rfl ?_
    refine v_icmp_lt (pc := 98) 105 dX3_canFill_98 (by decide) (fun c15 => ?_) (fun c15 => ?_)
    · replace hf := it_t c15 hf
      refine v_iconst (pc := 105) (0 : Int32) dX3_canFill_105 ci_0 ?_
      have hf2 := Option.some.inj hf; subst hf2
      exact V_zret (pc := 106) hF rfl dX3_canFill_106
    · replace hf := it_f c15 hf
      refine v_iconst (pc := 101) (1 : Int32) dX3_canFill_101 ci_1 ?_
      refine v_goto (pc := 102) 106 dX3_canFill_102 (by decide) ?_
      have hf2 := Option.some.inj hf; subst hf2
      exact V_zret (pc := 106) hF rfl dX3_canFill_106
set_option maxRecDepth 20000 in
theorem wX3_bestBeds_j47 {G : Wc} {Γ : Cx} {o oa ob : Nat} {S : Ob} {Sa : Ob} {Sb : Ob} {l3 : Int32} {l4 : Int32} {l5 : Int32} {s0 : Int32} {r : Int32 × Ob} (hk0 : kd o = 3) (hk1 : kd oa = 4) (hk2 : kd ob = 6) {rec : Int32 → Int32 → Ob → Option (Int32 × Ob)} (hrec : ∀ {l4 : Int32} {l5 : Int32} {S : Ob}, rec l4 l5 S = some r → V cX3_bestBeds RX3 5 159 7 G Γ [(o, S), (oa, Sa), (ob, Sb)] 18 [(0, .ref (wA G o 0)), (1, .ref (wA G oa 0)), (2, .ref (wA G ob 0)), (3, .int l3), (4, .int l4), (5, .int l5)] []) (hx : V cX3_bestBeds RX3 5 159 7 G Γ [(o, r.2), (oa, Sa), (ob, Sb)] 83 [(4, .int r.1)] []) (hf : pX3_bestBeds_j47 rec S Sa Sb l3 l4 l5 s0 = some r) : V cX3_bestBeds RX3 5 159 7 G Γ [(o, S), (oa, Sa), (ob, Sb)] 47 [(0, .ref (wA G o 0)), (1, .ref (wA G oa 0)), (2, .ref (wA G ob 0)), (3, .int l3), (4, .int l4), (5, .int l5)] [.int s0] := by
  unfold pX3_bestBeds_j47 at hf
  refine v_istore (pc := 47) [(6, _), (0, _), (1, _), (2, _), (3, _), (4, _), (5, _)] dX3_bestBeds_47 (Nat.le_of_ble_eq_true rfl) rfl ?_
  refine v_iload (pc := 49) 0 dX3_bestBeds_49 rfl ?_
  refine v_if_eq (pc := 51) 77 dX3_bestBeds_51 (by decide) (fun c11 => ?_) (fun c11 => ?_)
  · replace hf := it_t c11 hf
    refine v_iinc (pc := 77) 6 (l5 + (1 : Int32)) [(5, _), (6, _), (0, _), (1, _), (2, _), (3, _), (4, _)] dX3_bestBeds_77 rfl (congrArg (fun z => _ + z) ci_1) (Nat.le_of_ble_eq_true rfl) rfl ?_
    refine v_goto (pc := 80) 18 dX3_bestBeds_80 (by decide) ?_
    exact V_sub [2, 3, 4, 5, 6, 0] rfl (hrec hf)
  · replace hf := it_f c11 hf
    refine v_iload (pc := 54) 6 dX3_bestBeds_54 rfl ?_
    refine v_iload_n (pc := 56) 4 dX3_bestBeds_56 rfl ?_
    refine v_iand (pc := 57) dX3_bestBeds_57 ?_
    refine v_iload_n (pc := 58) 4 dX3_bestBeds_58 rfl ?_
    refine v_icmp_ne (pc := 59) 77 dX3_bestBeds_59 (by decide) (fun c12 => ?_) (fun c12 => ?_)
    · replace hf := it_f c12 hf
      refine v_iinc (pc := 77) 6 (l5 + (1 : Int32)) [(5, _), (6, _), (0, _), (1, _), (2, _), (3, _), (4, _)] dX3_bestBeds_77 rfl (congrArg (fun z => _ + z) ci_1) (Nat.le_of_ble_eq_true rfl) rfl ?_
      refine v_goto (pc := 80) 18 dX3_bestBeds_80 (by decide) ?_
      exact V_sub [2, 3, 4, 5, 6, 0] rfl (hrec hf)
    · replace hf := it_t c12 hf
      refine v_aload_n (pc := 62) 1 dX3_bestBeds_62 rfl ?_
      refine v_aload_n (pc := 63) 2 dX3_bestBeds_63 rfl ?_
      refine v_aload_n (pc := 64) 3 dX3_bestBeds_64 rfl ?_
      refine v_iload (pc := 65) 6 dX3_bestBeds_65 rfl ?_
      replace hf := bd_some hf; obtain ⟨r13, h14, hf⟩ := hf
      refine V_call (pc := 67) (us1 := [_, _, _]) [0, 1, 2] 0 (kX3_canFill (o := o) (oa := oa) (ob := ob) hk0 hk1 hk2 h14) rfl rfl rfl rfl rfl hk0 (Nat.le_of_ble_eq_true rfl) rfl rfl rfl wm_RX3_96 md_X3_canFill (Nat.le_of_ble_eq_true rfl) (Nat.le_of_ble_eq_true rfl) rfl rfl (Nat.le_of_ble_eq_true rfl) dX3_bestBeds_67 ?_
      refine v_if_eq (pc := 70) 77 dX3_bestBeds_70 (by decide) (fun c15 => ?_) (fun c15 => ?_)
      · replace hf := it_t c15 hf
        refine v_iinc (pc := 77) 6 (l5 + (1 : Int32)) [(5, _), (6, _), (0, _), (1, _), (2, _), (3, _), (4, _)] dX3_bestBeds_77 rfl (congrArg (fun z => _ + z) ci_1) (Nat.le_of_ble_eq_true rfl) rfl ?_
        refine v_goto (pc := 80) 18 dX3_bestBeds_80 (by decide) ?_
        exact V_sub [2, 3, 4, 5, 6, 0] rfl (hrec hf)
      · replace hf := it_f c15 hf
        refine v_iload (pc := 73) 6 dX3_bestBeds_73 rfl ?_
        refine v_istore (pc := 75) [(4, _), (6, _), (0, _), (1, _), (2, _), (3, _), (5, _)] dX3_bestBeds_75 (Nat.le_of_ble_eq_true rfl) rfl ?_
        refine v_iinc (pc := 77) 6 (l5 + (1 : Int32)) [(5, _), (4, _), (6, _), (0, _), (1, _), (2, _), (3, _)] dX3_bestBeds_77 rfl (congrArg (fun z => _ + z) ci_1) (Nat.le_of_ble_eq_true rfl) rfl ?_
        refine v_goto (pc := 80) 18 dX3_bestBeds_80 (by decide) ?_
        exact V_sub [3, 4, 5, 6, 1, 0] rfl (hrec hf)
set_option maxRecDepth 20000 in
theorem wX3_bestBeds_l18 {G : Wc} {Γ : Cx} {o oa ob : Nat} {Sa : Ob} {Sb : Ob} {l3 : Int32} (hk0 : kd o = 3) (hk1 : kd oa = 4) (hk2 : kd ob = 6) : ∀ (n : Nat) {l4 : Int32} {l5 : Int32} {S : Ob} {r : Int32 × Ob}, pX3_bestBeds_l18  Sa Sb l3 n l4 l5 S = some r → V cX3_bestBeds RX3 5 159 7 G Γ [(o, r.2), (oa, Sa), (ob, Sb)] 83 [(4, .int r.1)] [] → V cX3_bestBeds RX3 5 159 7 G Γ [(o, S), (oa, Sa), (ob, Sb)] 18 [(0, .ref (wA G o 0)), (1, .ref (wA G oa 0)), (2, .ref (wA G ob 0)), (3, .int l3), (4, .int l4), (5, .int l5)] [] := by
  intro n
  induction n with
  | zero => intro l4 l5 S r hf hx; unfold pX3_bestBeds_l18 at hf; cases hf
  | succ n ih =>
    intro l4 l5 S r hf hx
    have hrec : ∀ {l4 : Int32} {l5 : Int32} {S : Ob}, pX3_bestBeds_l18  Sa Sb l3 n l4 l5 S = some r → V cX3_bestBeds RX3 5 159 7 G Γ [(o, S), (oa, Sa), (ob, Sb)] 18 [(0, .ref (wA G o 0)), (1, .ref (wA G oa 0)), (2, .ref (wA G ob 0)), (3, .int l3), (4, .int l4), (5, .int l5)] [] := fun h => ih h hx
    clear ih
    unfold pX3_bestBeds_l18 at hf
    refine v_iload (pc := 18) 5 dX3_bestBeds_18 rfl ?_
    refine v_iconst (pc := 20) (1 : Int32) dX3_bestBeds_20 ci_1 ?_
    refine v_aload_n (pc := 21) 1 dX3_bestBeds_21 rfl ?_
    refine gf_RX3_93 (pc := 22) 1 rfl hk1 dX3_bestBeds_22 ?_
    refine v_ishl (pc := 25) dX3_bestBeds_25 ?_
    refine v_icmp_ge (pc := 26) 83 dX3_bestBeds_26 (by decide) (fun c5 => ?_) (fun c5 => ?_)
    · replace hf := it_t c5 hf
      have hf2 := Option.some.inj hf; subst hf2
      exact V_sub [4] rfl hx
    · replace hf := it_f c5 hf
      refine v_iload (pc := 29) 5 dX3_bestBeds_29 rfl ?_
      replace hf := bd_some hf; obtain ⟨r6, h7, hf⟩ := hf
      refine V_callS (pc := 31) (us1 := [_, _, _]) [] (kJ6_bitCount_0f7a4  h7) rfl rfl rfl rfl wm_RX3_79 md_J6_bitCount_0f7a4 (Nat.le_of_ble_eq_true rfl) (Nat.le_of_ble_eq_true rfl) rfl rfl (Nat.le_of_ble_eq_true rfl) dX3_bestBeds_31 ?_
      refine v_iload (pc := 34) 4 dX3_bestBeds_34 rfl ?_
      replace hf := bd_some hf; obtain ⟨r8, h9, hf⟩ := hf
      refine V_callS (pc := 36) (us1 := [_, _, _]) [] (kJ6_bitCount_0f7a4  h9) rfl rfl rfl rfl wm_RX3_79 md_J6_bitCount_0f7a4 (Nat.le_of_ble_eq_true rfl) (Nat.le_of_ble_eq_true rfl) rfl rfl (Nat.le_of_ble_eq_true rfl) dX3_bestBeds_36 ?_
      refine v_icmp_le (pc := 39) 46 dX3_bestBeds_39 (by decide) (fun c10 => ?_) (fun c10 => ?_)
      · replace hf := it_t c10 hf
        refine v_iconst (pc := 46) (0 : Int32) dX3_bestBeds_46 ci_0 ?_
        exact V_sub [0, 1, 2, 3, 4, 5] rfl (wX3_bestBeds_j47 hk0 hk1 hk2 hrec hx hf)
      · replace hf := it_f c10 hf
        refine v_iconst (pc := 42) (1 : Int32) dX3_bestBeds_42 ci_1 ?_
        refine v_goto (pc := 43) 47 dX3_bestBeds_43 (by decide) ?_
        exact V_sub [0, 1, 2, 3, 4, 5] rfl (wX3_bestBeds_j47 hk0 hk1 hk2 hrec hx hf)
set_option maxRecDepth 20000 in
theorem kX3_bestBeds {G : Wc} {o oa ob : Nat} {S : Ob} {Sa : Ob} {Sb : Ob}  {r : Int32 × Ob} (hk0 : kd o = 3) (hk1 : kd oa = 4) (hk2 : kd ob = 6) (hf : pX3_bestBeds S Sa Sb   = some r) : Cn yX3_bestBeds cX3_bestBeds 7 (some .int) 5 159 G [.ref (wA G o 0), .ref (wA G oa 0), .ref (wA G ob 0)] [(o, S), (oa, Sa), (ob, Sb)] [(o, r.2), (oa, Sa), (ob, Sb)] (some (.int r.1)) := by
  refine V_method [(0, .ref (wA G o 0)), (1, .ref (wA G oa 0)), (2, .ref (wA G ob 0))] (by decide) rfl (Nat.le_of_ble_eq_true rfl) rfl (fun Γ hF => ?_)
  unfold pX3_bestBeds at hf
  refine v_aload_n (pc := 0) 0 dX3_bestBeds_0 rfl ?_
  refine v_aload_n (pc := 1) 1 dX3_bestBeds_1 rfl ?_
  refine v_aload_n (pc := 2) 2 dX3_bestBeds_2 rfl ?_
  replace hf := bd_some hf; obtain ⟨r1, h2, hf⟩ := hf
  refine V_call (pc := 3) (us1 := [_, _, _]) [0, 1, 2] 0 (kX3_listBag (o := o) (oa := oa) (ob := ob) hk0 hk1 hk2 h2) rfl rfl rfl rfl rfl hk0 (Nat.le_of_ble_eq_true rfl) rfl rfl rfl wm_RX3_85 md_X3_listBag (Nat.le_of_ble_eq_true rfl) (Nat.le_of_ble_eq_true rfl) rfl rfl (Nat.le_of_ble_eq_true rfl) dX3_bestBeds_3 ?_
  refine v_aload_n (pc := 6) 2 dX3_bestBeds_6 rfl ?_
  refine v_aload_n (pc := 7) 1 dX3_bestBeds_7 rfl ?_
  replace hf := bd_some hf; obtain ⟨r3, h4, hf⟩ := hf
  refine V_call (pc := 8) (us1 := [_, _, _]) [2, 1] 2 (kX6_allSleeping (o := ob) (oa := oa) hk2 hk1 h4) rfl rfl rfl rfl rfl hk2 (Nat.le_of_ble_eq_true rfl) rfl rfl rfl wm_RX3_89 md_X6_allSleeping (Nat.le_of_ble_eq_true rfl) (Nat.le_of_ble_eq_true rfl) rfl rfl (Nat.le_of_ble_eq_true rfl) dX3_bestBeds_8 ?_
  refine v_istore_n (pc := 11) [(3, _), (0, _), (1, _), (2, _)] dX3_bestBeds_11 (Nat.le_of_ble_eq_true rfl) rfl ?_
  refine v_iload_n (pc := 12) 0 dX3_bestBeds_12 rfl ?_
  refine v_istore (pc := 13) [(4, _), (3, _), (0, _), (1, _), (2, _)] dX3_bestBeds_13 (Nat.le_of_ble_eq_true rfl) rfl ?_
  refine v_iconst (pc := 15) (0 : Int32) dX3_bestBeds_15 ci_0 ?_
  refine v_istore (pc := 16) [(5, _), (4, _), (3, _), (0, _), (1, _), (2, _)] dX3_bestBeds_16 (Nat.le_of_ble_eq_true rfl) rfl ?_
  replace hf := bd_some hf; obtain ⟨r16, h17, hf⟩ := hf
  refine V_sub [3, 4, 5, 2, 1, 0] rfl (wX3_bestBeds_l18 hk0 hk1 hk2 fu h17 ?_)
  refine v_iload (pc := 83) 0 dX3_bestBeds_83 rfl ?_
  have hf2 := Option.some.inj hf; subst hf2
  exact V_iret (pc := 85) hF dX3_bestBeds_85
set_option maxRecDepth 20000 in
theorem wX3_mostLeft_j55 {G : Wc} {Γ : Cx} {o oa ob : Nat} {S : Ob} {Sa : Ob} {Sb : Ob} {l3 : Int32} {l4 : Int32} {l5 : Int32} {l6 : Int32} {l7 : Int32} {l8 : Int32} {s0 : Int32} {r : Int32} (hk0 : kd o = 3) (hk1 : kd oa = 4) (hk2 : kd ob = 6) {rec : Int32 → Int32 → Option (Int32)} (hrec : ∀ {l7 : Int32} {l8 : Int32}, rec l7 l8 = some r → V cX3_mostLeft RX3 3 104 10 G Γ [(o, S), (oa, Sa), (ob, Sb)] 21 [(1, .ref (wA G oa 0)), (2, .ref (wA G ob 0)), (3, .int l3), (4, .int l4), (5, .int l5), (6, .int l6), (7, .int l7), (8, .int l8)] []) (hx : V cX3_mostLeft RX3 3 104 10 G Γ [(o, S), (oa, Sa), (ob, Sb)] 90 [(1, .ref (wA G oa 0)), (2, .ref (wA G ob 0)), (3, .int l3), (4, .int l4), (5, .int l5), (6, .int l6), (7, .int r)] []) (hf : pX3_mostLeft_j55 rec S Sa Sb l3 l4 l5 l6 l7 l8 s0 = some r) : V cX3_mostLeft RX3 3 104 10 G Γ [(o, S), (oa, Sa), (ob, Sb)] 55 [(1, .ref (wA G oa 0)), (2, .ref (wA G ob 0)), (3, .int l3), (4, .int l4), (5, .int l5), (6, .int l6), (7, .int l7), (8, .int l8)] [.int s0] := by
  unfold pX3_mostLeft_j55 at hf
  refine v_istore (pc := 55) [(9, _), (1, _), (2, _), (3, _), (4, _), (5, _), (6, _), (7, _), (8, _)] dX3_mostLeft_55 (Nat.le_of_ble_eq_true rfl) rfl ?_
  refine v_iload (pc := 57) 0 dX3_mostLeft_57 rfl ?_
  refine v_if_eq (pc := 59) 84 dX3_mostLeft_59 (by decide) (fun c4 => ?_) (fun c4 => ?_)
  · replace hf := it_t c4 hf
    refine v_iinc (pc := 84) 8 (l8 + (1 : Int32)) [(8, _), (9, _), (1, _), (2, _), (3, _), (4, _), (5, _), (6, _), (7, _)] dX3_mostLeft_84 rfl (congrArg (fun z => _ + z) ci_1) (Nat.le_of_ble_eq_true rfl) rfl ?_
    refine v_goto (pc := 87) 21 dX3_mostLeft_87 (by decide) ?_
    exact V_sub [2, 3, 4, 5, 6, 7, 8, 0] rfl (hrec hf)
  · replace hf := it_f c4 hf
    refine v_aload_n (pc := 62) 2 dX3_mostLeft_62 rfl ?_
    refine v_iload (pc := 63) 6 dX3_mostLeft_63 rfl ?_
    refine v_iload (pc := 65) 4 dX3_mostLeft_65 rfl ?_
    replace hf := bd_some hf; obtain ⟨r5, h6, hf⟩ := hf
    refine V_call (pc := 67) (us1 := [_, _, _]) [2] 2 (kX6_layerFromOutside (o := ob) hk2 h6) rfl rfl rfl rfl rfl hk2 (Nat.le_of_ble_eq_true rfl) rfl rfl rfl wm_RX3_149 md_X6_layerFromOutside (Nat.le_of_ble_eq_true rfl) (Nat.le_of_ble_eq_true rfl) rfl rfl (Nat.le_of_ble_eq_true rfl) dX3_mostLeft_67 ?_
    refine v_aload_n (pc := 70) 2 dX3_mostLeft_70 rfl ?_
    refine v_iload (pc := 71) 8 dX3_mostLeft_71 rfl ?_
    refine v_iload (pc := 73) 4 dX3_mostLeft_73 rfl ?_
    replace hf := bd_some hf; obtain ⟨r7, h8, hf⟩ := hf
    refine V_call (pc := 75) (us1 := [_, _, _]) [2] 2 (kX6_layerFromOutside (o := ob) hk2 h8) rfl rfl rfl rfl rfl hk2 (Nat.le_of_ble_eq_true rfl) rfl rfl rfl wm_RX3_149 md_X6_layerFromOutside (Nat.le_of_ble_eq_true rfl) (Nat.le_of_ble_eq_true rfl) rfl rfl (Nat.le_of_ble_eq_true rfl) dX3_mostLeft_75 ?_
    refine v_icmp_ne (pc := 78) 84 dX3_mostLeft_78 (by decide) (fun c9 => ?_) (fun c9 => ?_)
    · replace hf := it_f c9 hf
      refine v_iinc (pc := 84) 8 (l8 + (1 : Int32)) [(8, _), (9, _), (1, _), (2, _), (3, _), (4, _), (5, _), (6, _), (7, _)] dX3_mostLeft_84 rfl (congrArg (fun z => _ + z) ci_1) (Nat.le_of_ble_eq_true rfl) rfl ?_
      refine v_goto (pc := 87) 21 dX3_mostLeft_87 (by decide) ?_
      exact V_sub [2, 3, 4, 5, 6, 7, 8, 0] rfl (hrec hf)
    · replace hf := it_t c9 hf
      refine v_iinc (pc := 81) 7 (l7 + (1 : Int32)) [(7, _), (9, _), (1, _), (2, _), (3, _), (4, _), (5, _), (6, _), (8, _)] dX3_mostLeft_81 rfl (congrArg (fun z => _ + z) ci_1) (Nat.le_of_ble_eq_true rfl) rfl ?_
      refine v_iinc (pc := 84) 8 (l8 + (1 : Int32)) [(8, _), (7, _), (9, _), (1, _), (2, _), (3, _), (4, _), (5, _), (6, _)] dX3_mostLeft_84 rfl (congrArg (fun z => _ + z) ci_1) (Nat.le_of_ble_eq_true rfl) rfl ?_
      refine v_goto (pc := 87) 21 dX3_mostLeft_87 (by decide) ?_
      exact V_sub [3, 4, 5, 6, 7, 8, 1, 0] rfl (hrec hf)
set_option maxRecDepth 20000 in
theorem wX3_mostLeft_j54 {G : Wc} {Γ : Cx} {o oa ob : Nat} {S : Ob} {Sa : Ob} {Sb : Ob} {l3 : Int32} {l4 : Int32} {l5 : Int32} {l6 : Int32} {l7 : Int32} {l8 : Int32} {r : Int32} (hk0 : kd o = 3) (hk1 : kd oa = 4) (hk2 : kd ob = 6) {rec : Int32 → Int32 → Option (Int32)} (hrec : ∀ {l7 : Int32} {l8 : Int32}, rec l7 l8 = some r → V cX3_mostLeft RX3 3 104 10 G Γ [(o, S), (oa, Sa), (ob, Sb)] 21 [(1, .ref (wA G oa 0)), (2, .ref (wA G ob 0)), (3, .int l3), (4, .int l4), (5, .int l5), (6, .int l6), (7, .int l7), (8, .int l8)] []) (hx : V cX3_mostLeft RX3 3 104 10 G Γ [(o, S), (oa, Sa), (ob, Sb)] 90 [(1, .ref (wA G oa 0)), (2, .ref (wA G ob 0)), (3, .int l3), (4, .int l4), (5, .int l5), (6, .int l6), (7, .int r)] []) (hf : pX3_mostLeft_j54 rec S Sa Sb l3 l4 l5 l6 l7 l8 = some r) : V cX3_mostLeft RX3 3 104 10 G Γ [(o, S), (oa, Sa), (ob, Sb)] 54 [(1, .ref (wA G oa 0)), (2, .ref (wA G ob 0)), (3, .int l3), (4, .int l4), (5, .int l5), (6, .int l6), (7, .int l7), (8, .int l8)] [] := by
  unfold pX3_mostLeft_j54 at hf
  refine v_iconst (pc := 54) (0 : Int32) dX3_mostLeft_54 ci_0 ?_
  exact V_sub [0, 1, 2, 3, 4, 5, 6, 7] rfl (wX3_mostLeft_j55 hk0 hk1 hk2 hrec hx hf)
set_option maxRecDepth 20000 in
theorem wX3_mostLeft_l21 {G : Wc} {Γ : Cx} {o oa ob : Nat} {S : Ob} {Sa : Ob} {Sb : Ob} {l3 : Int32} {l4 : Int32} {l5 : Int32} {l6 : Int32} (hk0 : kd o = 3) (hk1 : kd oa = 4) (hk2 : kd ob = 6) : ∀ (n : Nat) {l7 : Int32} {l8 : Int32} {r : Int32}, pX3_mostLeft_l21  S Sa Sb l3 l4 l5 l6 n l7 l8 = some r → V cX3_mostLeft RX3 3 104 10 G Γ [(o, S), (oa, Sa), (ob, Sb)] 90 [(1, .ref (wA G oa 0)), (2, .ref (wA G ob 0)), (3, .int l3), (4, .int l4), (5, .int l5), (6, .int l6), (7, .int r)] [] → V cX3_mostLeft RX3 3 104 10 G Γ [(o, S), (oa, Sa), (ob, Sb)] 21 [(1, .ref (wA G oa 0)), (2, .ref (wA G ob 0)), (3, .int l3), (4, .int l4), (5, .int l5), (6, .int l6), (7, .int l7), (8, .int l8)] [] := by
  intro n
  induction n with
  | zero => intro l7 l8 r hf hx; unfold pX3_mostLeft_l21 at hf; cases hf
  | succ n ih =>
    intro l7 l8 r hf hx
    have hrec : ∀ {l7 : Int32} {l8 : Int32}, pX3_mostLeft_l21  S Sa Sb l3 l4 l5 l6 n l7 l8 = some r → V cX3_mostLeft RX3 3 104 10 G Γ [(o, S), (oa, Sa), (ob, Sb)] 21 [(1, .ref (wA G oa 0)), (2, .ref (wA G ob 0)), (3, .int l3), (4, .int l4), (5, .int l5), (6, .int l6), (7, .int l7), (8, .int l8)] [] := fun h => ih h hx
    clear ih
    unfold pX3_mostLeft_l21 at hf
    refine v_iload (pc := 21) 7 dX3_mostLeft_21 rfl ?_
    refine v_aload_n (pc := 23) 0 dX3_mostLeft_23 rfl ?_
    refine gf_RX3_69 (pc := 24) 1 rfl hk1 dX3_mostLeft_24 ?_
    refine v_icmp_ge (pc := 27) 90 dX3_mostLeft_27 (by decide) (fun c2 => ?_) (fun c2 => ?_)
    · replace hf := it_t c2 hf
      have hf2 := Option.some.inj hf; subst hf2
      exact V_sub [0, 1, 2, 3, 4, 5, 6] rfl hx
    · replace hf := it_f c2 hf
      refine v_iload_n (pc := 30) 2 dX3_mostLeft_30 rfl ?_
      refine v_iload (pc := 31) 5 dX3_mostLeft_31 rfl ?_
      refine v_ishr (pc := 33) dX3_mostLeft_33 ?_
      refine v_iconst (pc := 34) (1 : Int32) dX3_mostLeft_34 ci_1 ?_
      refine v_iand (pc := 35) dX3_mostLeft_35 ?_
      refine v_iconst (pc := 36) (1 : Int32) dX3_mostLeft_36 ci_1 ?_
      refine v_icmp_ne (pc := 37) 54 dX3_mostLeft_37 (by decide) (fun c3 => ?_) (fun c3 => ?_)
      · replace hf := it_f c3 hf
        exact V_sub [0, 1, 2, 3, 4, 5, 6, 7] rfl (wX3_mostLeft_j54 hk0 hk1 hk2 hrec hx hf)
      · replace hf := it_t c3 hf
        refine v_iload_n (pc := 40) 2 dX3_mostLeft_40 rfl ?_
        refine v_iload (pc := 41) 7 dX3_mostLeft_41 rfl ?_
        refine v_ishr (pc := 43) dX3_mostLeft_43 ?_
        refine v_iconst (pc := 44) (1 : Int32) dX3_mostLeft_44 ci_1 ?_
        refine v_iand (pc := 45) dX3_mostLeft_45 ?_
        refine v_iconst (pc := 46) (1 : Int32) dX3_mostLeft_46 ci_1 ?_
        refine v_icmp_ne (pc := 47) 54 dX3_mostLeft_47 (by decide) (fun c10 => ?_) (fun c10 => ?_)
        · replace hf := it_f c10 hf
          exact V_sub [0, 1, 2, 3, 4, 5, 6, 7] rfl (wX3_mostLeft_j54 hk0 hk1 hk2 hrec hx hf)
        · replace hf := it_t c10 hf
          refine v_iconst (pc := 50) (1 : Int32) dX3_mostLeft_50 ci_1 ?_
          refine v_goto (pc := 51) 55 dX3_mostLeft_51 (by decide) ?_
          exact V_sub [0, 1, 2, 3, 4, 5, 6, 7] rfl (wX3_mostLeft_j55 hk0 hk1 hk2 hrec hx hf)
set_option maxRecDepth 20000 in
theorem wX3_mostLeft_l6 {G : Wc} {Γ : Cx} {o oa ob : Nat} {S : Ob} {Sa : Ob} {Sb : Ob} {l3 : Int32} {l4 : Int32} (hk0 : kd o = 3) (hk1 : kd oa = 4) (hk2 : kd ob = 6) : ∀ (n : Nat) {l5 : Int32} {l6 : Int32} {r : Int32}, pX3_mostLeft_l6  S Sa Sb l3 l4 n l5 l6 = some r → V cX3_mostLeft RX3 3 104 10 G Γ [(o, S), (oa, Sa), (ob, Sb)] 105 [(5, .int r)] [] → V cX3_mostLeft RX3 3 104 10 G Γ [(o, S), (oa, Sa), (ob, Sb)] 6 [(1, .ref (wA G oa 0)), (2, .ref (wA G ob 0)), (3, .int l3), (4, .int l4), (5, .int l5), (6, .int l6)] [] := by
  intro n
  induction n with
  | zero => intro l5 l6 r hf hx; unfold pX3_mostLeft_l6 at hf; cases hf
  | succ n ih =>
    intro l5 l6 r hf hx
    have hrec : ∀ {l5 : Int32} {l6 : Int32}, pX3_mostLeft_l6  S Sa Sb l3 l4 n l5 l6 = some r → V cX3_mostLeft RX3 3 104 10 G Γ [(o, S), (oa, Sa), (ob, Sb)] 6 [(1, .ref (wA G oa 0)), (2, .ref (wA G ob 0)), (3, .int l3), (4, .int l4), (5, .int l5), (6, .int l6)] [] := fun h => ih h hx
    clear ih
    unfold pX3_mostLeft_l6 at hf
    refine v_iload (pc := 6) 5 dX3_mostLeft_6 rfl ?_
    refine v_aload_n (pc := 8) 0 dX3_mostLeft_8 rfl ?_
    refine gf_RX3_69 (pc := 9) 1 rfl hk1 dX3_mostLeft_9 ?_
    refine v_icmp_ge (pc := 12) 105 dX3_mostLeft_12 (by decide) (fun c1 => ?_) (fun c1 => ?_)
    · replace hf := it_t c1 hf
      have hf2 := Option.some.inj hf; subst hf2
      exact V_sub [4] rfl hx
    · replace hf := it_f c1 hf
      refine v_iconst (pc := 15) (0 : Int32) dX3_mostLeft_15 ci_0 ?_
      refine v_istore (pc := 16) [(7, _), (1, _), (2, _), (3, _), (4, _), (5, _), (6, _)] dX3_mostLeft_16 (Nat.le_of_ble_eq_true rfl) rfl ?_
      refine v_iconst (pc := 18) (0 : Int32) dX3_mostLeft_18 ci_0 ?_
      refine v_istore (pc := 19) [(8, _), (7, _), (1, _), (2, _), (3, _), (4, _), (5, _), (6, _)] dX3_mostLeft_19 (Nat.le_of_ble_eq_true rfl) rfl ?_
      replace hf := bd_some hf; obtain ⟨r11, h12, hf⟩ := hf
      refine V_sub [2, 3, 4, 5, 6, 7, 1, 0] rfl (wX3_mostLeft_l21 hk0 hk1 hk2 fu h12 ?_)
      refine v_iload (pc := 90) 4 dX3_mostLeft_90 rfl ?_
      refine v_iload (pc := 92) 6 dX3_mostLeft_92 rfl ?_
      refine v_mmax (pc := 94) wm_RX3_140 (Nat.le_of_ble_eq_true rfl) (Nat.le_of_ble_eq_true rfl) (Nat.le_of_ble_eq_true rfl) dX3_mostLeft_94 ?_
      refine v_istore (pc := 97) [(5, _), (1, _), (2, _), (3, _), (4, _), (6, _), (7, _)] dX3_mostLeft_97 (Nat.le_of_ble_eq_true rfl) rfl ?_
      refine v_iinc (pc := 99) 5 (l6 + (1 : Int32)) [(6, _), (5, _), (1, _), (2, _), (3, _), (4, _), (7, _)] dX3_mostLeft_99 rfl (congrArg (fun z => _ + z) ci_1) (Nat.le_of_ble_eq_true rfl) rfl ?_
      refine v_goto (pc := 102) 6 dX3_mostLeft_102 (by decide) ?_
      exact V_sub [2, 3, 4, 5, 1, 0] rfl (hrec hf)
set_option maxRecDepth 20000 in
theorem kX3_mostLeft {G : Wc} {o oa ob : Nat} {S : Ob} {Sa : Ob} {Sb : Ob} {c : Int32} {d : Int32} {r : Int32} (hk0 : kd o = 3) (hk1 : kd oa = 4) (hk2 : kd ob = 6) (hf : pX3_mostLeft S Sa Sb  c d = some r) : Cn yX3_mostLeft cX3_mostLeft 10 (some .int) 3 104 G [.ref (wA G o 0), .ref (wA G oa 0), .ref (wA G ob 0), .int c, .int d] [(o, S), (oa, Sa), (ob, Sb)] [(o, S), (oa, Sa), (ob, Sb)] (some (.int r)) := by
  refine V_method [(0, .ref (wA G o 0)), (1, .ref (wA G oa 0)), (2, .ref (wA G ob 0)), (3, .int c), (4, .int d)] (by decide) rfl (Nat.le_of_ble_eq_true rfl) rfl (fun Γ hF => ?_)
  unfold pX3_mostLeft at hf
  refine v_iconst (pc := 0) (0 : Int32) dX3_mostLeft_0 ci_0 ?_
  refine v_istore (pc := 1) [(5, _), (0, _), (1, _), (2, _), (3, _), (4, _)] dX3_mostLeft_1 (Nat.le_of_ble_eq_true rfl) rfl ?_
  refine v_iconst (pc := 3) (0 : Int32) dX3_mostLeft_3 ci_0 ?_
  refine v_istore (pc := 4) [(6, _), (5, _), (0, _), (1, _), (2, _), (3, _), (4, _)] dX3_mostLeft_4 (Nat.le_of_ble_eq_true rfl) rfl ?_
  replace hf := bd_some hf; obtain ⟨r13, h14, hf⟩ := hf
  refine V_sub [3, 4, 5, 6, 1, 0] rfl (wX3_mostLeft_l6 hk0 hk1 hk2 fu h14 ?_)
  refine v_iload (pc := 105) 0 dX3_mostLeft_105 rfl ?_
  have hf2 := Option.some.inj hf; subst hf2
  exact V_iret (pc := 107) hF dX3_mostLeft_107
set_option maxRecDepth 20000 in
theorem wX3_bestLayer_l10 {G : Wc} {Γ : Cx} {o oa ob : Nat} {S : Ob} {Sa : Ob} {Sb : Ob} {l3 : Int32} (hk0 : kd o = 3) (hk1 : kd oa = 4) (hk2 : kd ob = 6) : ∀ (n : Nat) {l4 : Int32} {l5 : Int32} {l6 : Int32} {r : Int32}, pX3_bestLayer_l10  S Sa Sb l3 n l4 l5 l6 = some r → V cX3_bestLayer RX3 4 133 8 G Γ [(o, S), (oa, Sa), (ob, Sb)] 49 [(4, .int r)] [] → V cX3_bestLayer RX3 4 133 8 G Γ [(o, S), (oa, Sa), (ob, Sb)] 10 [(0, .ref (wA G o 0)), (1, .ref (wA G oa 0)), (2, .ref (wA G ob 0)), (3, .int l3), (4, .int l4), (5, .int l5), (6, .int l6)] [] := by
  intro n
  induction n with
  | zero => intro l4 l5 l6 r hf hx; unfold pX3_bestLayer_l10 at hf; cases hf
  | succ n ih =>
    intro l4 l5 l6 r hf hx
    have hrec : ∀ {l4 : Int32} {l5 : Int32} {l6 : Int32}, pX3_bestLayer_l10  S Sa Sb l3 n l4 l5 l6 = some r → V cX3_bestLayer RX3 4 133 8 G Γ [(o, S), (oa, Sa), (ob, Sb)] 10 [(0, .ref (wA G o 0)), (1, .ref (wA G oa 0)), (2, .ref (wA G ob 0)), (3, .int l3), (4, .int l4), (5, .int l5), (6, .int l6)] [] := fun h => ih h hx
    clear ih
    unfold pX3_bestLayer_l10 at hf
    refine v_iload (pc := 10) 6 dX3_bestLayer_10 rfl ?_
    refine v_bipush (pc := 12) (8 : Int32) dX3_bestLayer_12 cb_8 ?_
    refine v_icmp_ge (pc := 14) 49 dX3_bestLayer_14 (by decide) (fun c1 => ?_) (fun c1 => ?_)
    · replace hf := it_t c1 hf
      have hf2 := Option.some.inj hf; subst hf2
      exact V_sub [4] rfl hx
    · replace hf := it_f c1 hf
      refine v_aload_n (pc := 17) 0 dX3_bestLayer_17 rfl ?_
      refine v_aload_n (pc := 18) 1 dX3_bestLayer_18 rfl ?_
      refine v_aload_n (pc := 19) 2 dX3_bestLayer_19 rfl ?_
      refine v_iload_n (pc := 20) 3 dX3_bestLayer_20 rfl ?_
      refine v_iload (pc := 21) 6 dX3_bestLayer_21 rfl ?_
      replace hf := bd_some hf; obtain ⟨r2, h3, hf⟩ := hf
      refine V_call (pc := 23) (us1 := [_, _, _]) [0, 1, 2] 0 (kX3_mostLeft (o := o) (oa := oa) (ob := ob) hk0 hk1 hk2 h3) rfl rfl rfl rfl rfl hk0 (Nat.le_of_ble_eq_true rfl) rfl rfl rfl wm_RX3_145 md_X3_mostLeft (Nat.le_of_ble_eq_true rfl) (Nat.le_of_ble_eq_true rfl) rfl rfl (Nat.le_of_ble_eq_true rfl) dX3_bestLayer_23 ?_
      refine v_istore (pc := 26) [(7, _), (0, _), (1, _), (2, _), (3, _), (4, _), (5, _), (6, _)] dX3_bestLayer_26 (Nat.le_of_ble_eq_true rfl) rfl ?_
      refine v_iload (pc := 28) 0 dX3_bestLayer_28 rfl ?_
      refine v_iload (pc := 30) 6 dX3_bestLayer_30 rfl ?_
      refine v_icmp_ge (pc := 32) 43 dX3_bestLayer_32 (by decide) (fun c4 => ?_) (fun c4 => ?_)
      · replace hf := it_t c4 hf
        refine v_iinc (pc := 43) 7 (l6 + (1 : Int32)) [(6, _), (7, _), (0, _), (1, _), (2, _), (3, _), (4, _), (5, _)] dX3_bestLayer_43 rfl (congrArg (fun z => _ + z) ci_1) (Nat.le_of_ble_eq_true rfl) rfl ?_
        refine v_goto (pc := 46) 10 dX3_bestLayer_46 (by decide) ?_
        exact V_sub [2, 3, 4, 5, 6, 7, 0] rfl (hrec hf)
      · replace hf := it_f c4 hf
        refine v_iload (pc := 35) 7 dX3_bestLayer_35 rfl ?_
        refine v_istore (pc := 37) [(4, _), (7, _), (0, _), (1, _), (2, _), (3, _), (5, _), (6, _)] dX3_bestLayer_37 (Nat.le_of_ble_eq_true rfl) rfl ?_
        refine v_iload (pc := 39) 1 dX3_bestLayer_39 rfl ?_
        refine v_istore (pc := 41) [(5, _), (4, _), (7, _), (0, _), (1, _), (2, _), (3, _), (6, _)] dX3_bestLayer_41 (Nat.le_of_ble_eq_true rfl) rfl ?_
        refine v_iinc (pc := 43) 7 (l6 + (1 : Int32)) [(6, _), (5, _), (4, _), (7, _), (0, _), (1, _), (2, _), (3, _)] dX3_bestLayer_43 rfl (congrArg (fun z => _ + z) ci_1) (Nat.le_of_ble_eq_true rfl) rfl ?_
        refine v_goto (pc := 46) 10 dX3_bestLayer_46 (by decide) ?_
        exact V_sub [4, 5, 6, 7, 2, 1, 0] rfl (hrec hf)
set_option maxRecDepth 20000 in
theorem kX3_bestLayer {G : Wc} {o oa ob : Nat} {S : Ob} {Sa : Ob} {Sb : Ob} {c : Int32} {r : Int32} (hk0 : kd o = 3) (hk1 : kd oa = 4) (hk2 : kd ob = 6) (hf : pX3_bestLayer S Sa Sb  c = some r) : Cn yX3_bestLayer cX3_bestLayer 8 (some .int) 4 133 G [.ref (wA G o 0), .ref (wA G oa 0), .ref (wA G ob 0), .int c] [(o, S), (oa, Sa), (ob, Sb)] [(o, S), (oa, Sa), (ob, Sb)] (some (.int r)) := by
  refine V_method [(0, .ref (wA G o 0)), (1, .ref (wA G oa 0)), (2, .ref (wA G ob 0)), (3, .int c)] (by decide) rfl (Nat.le_of_ble_eq_true rfl) rfl (fun Γ hF => ?_)
  unfold pX3_bestLayer at hf
  refine v_iconst (pc := 0) (0 : Int32) dX3_bestLayer_0 ci_0 ?_
  refine v_istore (pc := 1) [(4, _), (0, _), (1, _), (2, _), (3, _)] dX3_bestLayer_1 (Nat.le_of_ble_eq_true rfl) rfl ?_
  refine v_bipush (pc := 3) (7 : Int32) dX3_bestLayer_3 cb_7 ?_
  refine v_istore (pc := 5) [(5, _), (4, _), (0, _), (1, _), (2, _), (3, _)] dX3_bestLayer_5 (Nat.le_of_ble_eq_true rfl) rfl ?_
  refine v_iconst (pc := 7) (0 : Int32) dX3_bestLayer_7 ci_0 ?_
  refine v_istore (pc := 8) [(6, _), (5, _), (4, _), (0, _), (1, _), (2, _), (3, _)] dX3_bestLayer_8 (Nat.le_of_ble_eq_true rfl) rfl ?_
  replace hf := bd_some hf; obtain ⟨r5, h6, hf⟩ := hf
  refine V_sub [3, 4, 5, 6, 2, 1, 0] rfl (wX3_bestLayer_l10 hk0 hk1 hk2 fu h6 ?_)
  refine v_iload (pc := 49) 0 dX3_bestLayer_49 rfl ?_
  have hf2 := Option.some.inj hf; subst hf2
  exact V_iret (pc := 51) hF dX3_bestLayer_51
