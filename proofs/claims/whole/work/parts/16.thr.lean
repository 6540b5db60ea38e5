def pX10_person (V0 : Ob) (V2 : Ob) (V3 : Ob)  (a : Int32) (b : Int32) : Option (Option Int32) :=
  (pX10_isPerson V0 V2 a).bind fun r1 =>
  if r1 = 0 then
    some none
  else
    if b = (0 : Int32) then
      gd (inB a 6) (some (some (oA V2 6 a.toNatClampNeg)))
    else
    if b = (1 : Int32) then
      gd (inB a 6) (some (some (oA V3 2 a.toNatClampNeg)))
    else
    if b = (2 : Int32) then
      gd (inB a 6) (some (some (oA V3 1 a.toNatClampNeg)))
    else
    if b = (3 : Int32) then
      (pX6_knotsOf V3 a).bind fun r14 =>
      some (some r14)
    else
    if b = (4 : Int32) then
      (pX6_outsideHolds V3 V2 a).bind fun r16 =>
      some (some r16)
    else
    if b = (5 : Int32) then
      (pX6_allHolds V3 V2 a).bind fun r18 =>
      some (some r18)
    else
    if b = (6 : Int32) then
      (pX6_isNest V3 a).bind fun r20 =>
      if r20 = 0 then
        some (some (0 : Int32))
      else
        some (some (1 : Int32))
    else
      some none
set_option maxRecDepth 20000 in
theorem kX10_person {G : Wc} {V0 : Ob} {V2 : Ob} {V3 : Ob} {a : Int32} {b : Int32} {r : Option Int32}  (hf : pX10_person V0 V2 V3  a b = some r) : CnX yX10_person cX10_person 3 6 130 G [.ref (wA G 0 0), .int a, .int b] [(0, V0), (2, V2), (3, V3)] r := by
  refine V_methodX [(0, .ref (wA G 0 0)), (1, .int a), (2, .int b)] (by decide) rfl (Nat.le_of_ble_eq_true rfl) rfl (fun Γ hF => ?_)
  unfold pX10_person at hf
  refine v_aload_n (pc := 0) 0 dX10_person_0 rfl ?_
  refine v_iload_n (pc := 1) 1 dX10_person_1 rfl ?_
  replace hf := bd_some hf; obtain ⟨r1, h2, hf⟩ := hf
  refine V_call (pc := 2) (us1 := [_, _, _]) [0, 1] 0 (kX10_isPerson  h2) rfl rfl rfl rfl rfl rfl (Nat.le_of_ble_eq_true rfl) rfl rfl rfl wm_RX10_122 md_X10_isPerson (Nat.le_of_ble_eq_true rfl) (Nat.le_of_ble_eq_true rfl) rfl rfl (Nat.le_of_ble_eq_true rfl) dX10_person_2 ?_
  refine v_if_ne (pc := 5) 18 dX10_person_5 (by decide) (fun c3 => ?_) (fun c3 => ?_)
  · replace hf := it_f c3 hf
    refine v_iload_n (pc := 18) 2 dX10_person_18 rfl ?_
    by_cases c4 : b = (0 : Int32)
    · replace hf := it_t c4 hf
      refine v_tsIn (pc := 19) (0 : Int32) 60 dX10_person_19 c4 (by decide) (by decide) rfl (by decide) ?_
      refine v_aload_n (pc := 60) 0 dX10_person_60 rfl ?_
      refine gf_RX10_19 (pc := 61) 0 rfl rfl dX10_person_61 ?_
      refine gf_RX10_133 (pc := 64) 1 rfl rfl dX10_person_64 ?_
      refine v_iload_n (pc := 67) 1 dX10_person_67 rfl ?_
      replace hf := gd_some hf; obtain ⟨g11, hf⟩ := hf
      refine al_X4_6 (pc := 68) _ 1 rfl rfl rfl g11 dX10_person_68 ?_
      have hf2 := Option.some.inj hf; subst hf2
      exact V_iretX (pc := 69) hF dX10_person_69
    replace hf := it_f c4 hf
    by_cases c5 : b = (1 : Int32)
    · replace hf := it_t c5 hf
      refine v_tsIn (1 : Int32) 70 dX10_person_19 c5 (by decide) (by decide) rfl (by decide) ?_
      refine v_aload_n (pc := 70) 0 dX10_person_70 rfl ?_
      refine gf_RX10_26 (pc := 71) 0 rfl rfl dX10_person_71 ?_
      refine gf_RX10_137 (pc := 74) 2 rfl rfl dX10_person_74 ?_
      refine v_iload_n (pc := 77) 1 dX10_person_77 rfl ?_
      replace hf := gd_some hf; obtain ⟨g12, hf⟩ := hf
      refine al_X6_2 (pc := 78) _ 2 rfl rfl rfl g12 dX10_person_78 ?_
      have hf2 := Option.some.inj hf; subst hf2
      exact V_iretX (pc := 79) hF dX10_person_79
    replace hf := it_f c5 hf
    by_cases c6 : b = (2 : Int32)
    · replace hf := it_t c6 hf
      refine v_tsIn (2 : Int32) 80 dX10_person_19 c6 (by decide) (by decide) rfl (by decide) ?_
      refine v_aload_n (pc := 80) 0 dX10_person_80 rfl ?_
      refine gf_RX10_26 (pc := 81) 0 rfl rfl dX10_person_81 ?_
      refine gf_RX10_140 (pc := 84) 2 rfl rfl dX10_person_84 ?_
      refine v_iload_n (pc := 87) 1 dX10_person_87 rfl ?_
      replace hf := gd_some hf; obtain ⟨g13, hf⟩ := hf
      refine al_X6_1 (pc := 88) _ 2 rfl rfl rfl g13 dX10_person_88 ?_
      have hf2 := Option.some.inj hf; subst hf2
      exact V_iretX (pc := 89) hF dX10_person_89
    replace hf := it_f c6 hf
    by_cases c7 : b = (3 : Int32)
    · replace hf := it_t c7 hf
      refine v_tsIn (3 : Int32) 90 dX10_person_19 c7 (by decide) (by decide) rfl (by decide) ?_
      refine v_aload_n (pc := 90) 0 dX10_person_90 rfl ?_
      refine gf_RX10_26 (pc := 91) 0 rfl rfl dX10_person_91 ?_
      refine v_iload_n (pc := 94) 1 dX10_person_94 rfl ?_
      replace hf := bd_some hf; obtain ⟨r14, h15, hf⟩ := hf
      refine V_call (pc := 95) (us1 := [_, _, _]) [2] 2 (kX6_knotsOf (o := 3) rfl h15) rfl rfl rfl rfl rfl rfl (Nat.le_of_ble_eq_true rfl) rfl rfl rfl wm_RX10_143 md_X6_knotsOf (Nat.le_of_ble_eq_true rfl) (Nat.le_of_ble_eq_true rfl) rfl rfl (Nat.le_of_ble_eq_true rfl) dX10_person_95 ?_
      have hf2 := Option.some.inj hf; subst hf2
      exact V_iretX (pc := 98) hF dX10_person_98
    replace hf := it_f c7 hf
    by_cases c8 : b = (4 : Int32)
    · replace hf := it_t c8 hf
      refine v_tsIn (4 : Int32) 99 dX10_person_19 c8 (by decide) (by decide) rfl (by decide) ?_
      refine v_aload_n (pc := 99) 0 dX10_person_99 rfl ?_
      refine gf_RX10_26 (pc := 100) 0 rfl rfl dX10_person_100 ?_
      refine v_aload_n (pc := 103) 0 dX10_person_103 rfl ?_
      refine gf_RX10_19 (pc := 104) 0 rfl rfl dX10_person_104 ?_
      refine v_iload_n (pc := 107) 1 dX10_person_107 rfl ?_
      replace hf := bd_some hf; obtain ⟨r16, h17, hf⟩ := hf
      refine V_call (pc := 108) (us1 := [_, _, _]) [2, 1] 2 (kX6_outsideHolds (o := 3) (oa := 2) rfl rfl h17) rfl rfl rfl rfl rfl rfl (Nat.le_of_ble_eq_true rfl) rfl rfl rfl wm_RX10_147 md_X6_outsideHolds (Nat.le_of_ble_eq_true rfl) (Nat.le_of_ble_eq_true rfl) rfl rfl (Nat.le_of_ble_eq_true rfl) dX10_person_108 ?_
      have hf2 := Option.some.inj hf; subst hf2
      exact V_iretX (pc := 111) hF dX10_person_111
    replace hf := it_f c8 hf
    by_cases c9 : b = (5 : Int32)
    · replace hf := it_t c9 hf
      refine v_tsIn (5 : Int32) 112 dX10_person_19 c9 (by decide) (by decide) rfl (by decide) ?_
      refine v_aload_n (pc := 112) 0 dX10_person_112 rfl ?_
      refine gf_RX10_26 (pc := 113) 0 rfl rfl dX10_person_113 ?_
      refine v_aload_n (pc := 116) 0 dX10_person_116 rfl ?_
      refine gf_RX10_19 (pc := 117) 0 rfl rfl dX10_person_117 ?_
      refine v_iload_n (pc := 120) 1 dX10_person_120 rfl ?_
      replace hf := bd_some hf; obtain ⟨r18, h19, hf⟩ := hf
      refine V_call (pc := 121) (us1 := [_, _, _]) [2, 1] 2 (kX6_allHolds (o := 3) (oa := 2) rfl rfl h19) rfl rfl rfl rfl rfl rfl (Nat.le_of_ble_eq_true rfl) rfl rfl rfl wm_RX10_151 md_X6_allHolds (Nat.le_of_ble_eq_true rfl) (Nat.le_of_ble_eq_true rfl) rfl rfl (Nat.le_of_ble_eq_true rfl) dX10_person_121 ?_
      have hf2 := Option.some.inj hf; subst hf2
      exact V_iretX (pc := 124) hF dX10_person_124
    replace hf := it_f c9 hf
    by_cases c10 : b = (6 : Int32)
    · replace hf := it_t c10 hf
      refine v_tsIn (6 : Int32) 125 dX10_person_19 c10 (by decide) (by decide) rfl (by decide) ?_
      refine v_aload_n (pc := 125) 0 dX10_person_125 rfl ?_
      refine gf_RX10_26 (pc := 126) 0 rfl rfl dX10_person_126 ?_
      refine v_iload_n (pc := 129) 1 dX10_person_129 rfl ?_
      replace hf := bd_some hf; obtain ⟨r20, h21, hf⟩ := hf
      refine V_call (pc := 130) (us1 := [_, _, _]) [2] 2 (kX6_isNest (o := 3) rfl h21) rfl rfl rfl rfl rfl rfl (Nat.le_of_ble_eq_true rfl) rfl rfl rfl wm_RX10_154 md_X6_isNest (Nat.le_of_ble_eq_true rfl) (Nat.le_of_ble_eq_true rfl) rfl rfl (Nat.le_of_ble_eq_true rfl) dX10_person_130 ?_
      refine v_if_eq (pc := 133) 140 dX10_person_133 (by decide) (fun c22 => ?_) (fun c22 => ?_)
      · replace hf := it_t c22 hf
        refine v_iconst (pc := 140) (0 : Int32) dX10_person_140 ci_0 ?_
        have hf2 := Option.some.inj hf; subst hf2
        exact V_iretX (pc := 141) hF dX10_person_141
      · replace hf := it_f c22 hf
        refine v_iconst (pc := 136) (1 : Int32) dX10_person_136 ci_1 ?_
        refine v_goto (pc := 137) 141 dX10_person_137 (by decide) ?_
        have hf2 := Option.some.inj hf; subst hf2
        exact V_iretX (pc := 141) hF dX10_person_141
    replace hf := it_f c10 hf
    refine v_tsOut 142 dX10_person_19 7 (fun k hk => match k, hk with | 0, _ => c4 | 1, _ => c5 | 2, _ => c6 | 3, _ => c7 | 4, _ => c8 | 5, _ => c9 | 6, _ => c10 | k + 7, h => absurd h (by omega)) (by decide) (by decide) (by decide) ?_
    have hf2 := Option.some.inj hf; subst hf2
    exact V_throwX (pc := 142) hF (fun U h => h.2.1) (Nat.le_of_ble_eq_true rfl) (Nat.le_of_ble_eq_true rfl) (Nat.le_of_ble_eq_true rfl) dX10_person_142 dX10_person_145 dX10_person_146 dX10_person_148 dX10_person_151
  · replace hf := it_t c3 hf
    have hf2 := Option.some.inj hf; subst hf2
    exact V_throwX (pc := 8) hF (fun U h => h.1) (Nat.le_of_ble_eq_true rfl) (Nat.le_of_ble_eq_true rfl) (Nat.le_of_ble_eq_true rfl) dX10_person_8 dX10_person_11 dX10_person_12 dX10_person_14 dX10_person_17
def pX10_mean_l73 (V0 : Ob) (V2 : Ob) (V3 : Ob) (l2 : Int32) : Nat → Int32 → Int32 → Int32 → Option (Int32 × Int32)
  | 0, _, _, _ => none
  | n + 1, l4, l5, l6 =>
    if l6 ≤ (1 : Int32) then
      some (l4, l5)
    else
      gd (decide (¬ l6 = 0)) (
        if l4 - l4 / l6 * l6 = 0 then
          gd (decide (¬ l6 = 0)) (
            if l5 - l5 / l6 * l6 = 0 then
              gd (decide (¬ l6 = 0)) (gd (decide (¬ l6 = 0)) ((pX10_mean_l73  V0 V2 V3 l2 n) (l4 / l6) (l5 / l6) (l6 + (-1 : Int32))))
            else
              (pX10_mean_l73  V0 V2 V3 l2 n) l4 l5 (l6 + (-1 : Int32)))
        else
          (pX10_mean_l73  V0 V2 V3 l2 n) l4 l5 (l6 + (-1 : Int32)))
def pX10_mean (V0 : Ob) (V2 : Ob) (V3 : Ob)  (a : Int32) (b : Int32) : Option (Option Int32) :=
  (pX10_isPerson V0 V2 a).bind fun r1 =>
  if r1 = 0 then
    some none
  else
    if b < 0 then
      some none
    else
      if b ≤ (1 : Int32) then
        (pX6_knotsOf V3 a).bind fun r6 =>
        if (1 : Int32) ≤ r6 then
          (pX6_allHolds V3 V2 a).bind fun r9 =>
          (pX10_mean_l73 V0 V2 V3 b fu r9 r6 r6).bind fun r18 =>
          if b = 0 then
            some (some r18.1)
          else
            some (some r18.2)
        else
          some none
      else
        some none
set_option maxRecDepth 20000 in
theorem wX10_mean_l73 {G : Wc} {Γ : Cx} {V0 : Ob} {V2 : Ob} {V3 : Ob} {l2 : Int32}  : ∀ (n : Nat) {l4 : Int32} {l5 : Int32} {l6 : Int32} {r : Int32 × Int32}, pX10_mean_l73  V0 V2 V3 l2 n l4 l5 l6 = some r → V cX10_mean RX10 6 130 7 G Γ [(0, V0), (2, V2), (3, V3)] 115 [(2, .int l2), (4, .int r.1), (5, .int r.2)] [] → V cX10_mean RX10 6 130 7 G Γ [(0, V0), (2, V2), (3, V3)] 73 [(2, .int l2), (4, .int l4), (5, .int l5), (6, .int l6)] [] := by
  intro n
  induction n with
  | zero => intro l4 l5 l6 r hf hx; unfold pX10_mean_l73 at hf; cases hf
  | succ n ih =>
    intro l4 l5 l6 r hf hx
    have hrec : ∀ {l4 : Int32} {l5 : Int32} {l6 : Int32}, pX10_mean_l73  V0 V2 V3 l2 n l4 l5 l6 = some r → V cX10_mean RX10 6 130 7 G Γ [(0, V0), (2, V2), (3, V3)] 73 [(2, .int l2), (4, .int l4), (5, .int l5), (6, .int l6)] [] := fun h => ih h hx
    clear ih
    unfold pX10_mean_l73 at hf
    refine v_iload (pc := 73) 3 dX10_mean_73 rfl ?_
    refine v_iconst (pc := 75) (1 : Int32) dX10_mean_75 ci_1 ?_
    refine v_icmp_le (pc := 76) 115 dX10_mean_76 (by decide) (fun c11 => ?_) (fun c11 => ?_)
    · replace hf := it_t c11 hf
      have hf2 := Option.some.inj hf; subst hf2
      exact V_sub [0, 1, 2] rfl hx
    · replace hf := it_f c11 hf
      refine v_iload (pc := 79) 1 dX10_mean_79 rfl ?_
      refine v_iload (pc := 81) 3 dX10_mean_81 rfl ?_
      replace hf := gd_some hf; obtain ⟨g12, hf⟩ := hf
      refine v_irem (pc := 83) dX10_mean_83 (of_decide_eq_true g12) ?_
      refine v_if_ne (pc := 84) 109 dX10_mean_84 (by decide) (fun c13 => ?_) (fun c13 => ?_)
      · replace hf := it_f c13 hf
        refine v_iinc (pc := 109) 3 (l6 + (-1 : Int32)) [(6, _), (2, _), (4, _), (5, _)] dX10_mean_109 rfl (congrArg (fun z => _ + z) ci_m1) (Nat.le_of_ble_eq_true rfl) rfl ?_
        refine v_goto (pc := 112) 73 dX10_mean_112 (by decide) ?_
        exact V_sub [1, 2, 3, 0] rfl (hrec hf)
      · replace hf := it_t c13 hf
        refine v_iload (pc := 87) 2 dX10_mean_87 rfl ?_
        refine v_iload (pc := 89) 3 dX10_mean_89 rfl ?_
        replace hf := gd_some hf; obtain ⟨g14, hf⟩ := hf
        refine v_irem (pc := 91) dX10_mean_91 (of_decide_eq_true g14) ?_
        refine v_if_ne (pc := 92) 109 dX10_mean_92 (by decide) (fun c15 => ?_) (fun c15 => ?_)
        · replace hf := it_f c15 hf
          refine v_iinc (pc := 109) 3 (l6 + (-1 : Int32)) [(6, _), (2, _), (4, _), (5, _)] dX10_mean_109 rfl (congrArg (fun z => _ + z) ci_m1) (Nat.le_of_ble_eq_true rfl) rfl ?_
          refine v_goto (pc := 112) 73 dX10_mean_112 (by decide) ?_
          exact V_sub [1, 2, 3, 0] rfl (hrec hf)
        · replace hf := it_t c15 hf
          refine v_iload (pc := 95) 1 dX10_mean_95 rfl ?_
          refine v_iload (pc := 97) 3 dX10_mean_97 rfl ?_
          replace hf := gd_some hf; obtain ⟨g16, hf⟩ := hf
          refine v_idiv (pc := 99) dX10_mean_99 (of_decide_eq_true g16) ?_
          refine v_istore (pc := 100) [(4, _), (2, _), (5, _), (6, _)] dX10_mean_100 (Nat.le_of_ble_eq_true rfl) rfl ?_
          refine v_iload (pc := 102) 2 dX10_mean_102 rfl ?_
          refine v_iload (pc := 104) 3 dX10_mean_104 rfl ?_
          replace hf := gd_some hf; obtain ⟨g17, hf⟩ := hf
          refine v_idiv (pc := 106) dX10_mean_106 (of_decide_eq_true g17) ?_
          refine v_istore (pc := 107) [(5, _), (4, _), (2, _), (6, _)] dX10_mean_107 (Nat.le_of_ble_eq_true rfl) rfl ?_
          refine v_iinc (pc := 109) 3 (l6 + (-1 : Int32)) [(6, _), (5, _), (4, _), (2, _)] dX10_mean_109 rfl (congrArg (fun z => _ + z) ci_m1) (Nat.le_of_ble_eq_true rfl) rfl ?_
          refine v_goto (pc := 112) 73 dX10_mean_112 (by decide) ?_
          exact V_sub [3, 2, 1, 0] rfl (hrec hf)
set_option maxRecDepth 20000 in
theorem kX10_mean {G : Wc} {V0 : Ob} {V2 : Ob} {V3 : Ob} {a : Int32} {b : Int32} {r : Option Int32}  (hf : pX10_mean V0 V2 V3  a b = some r) : CnX yX10_mean cX10_mean 7 6 130 G [.ref (wA G 0 0), .int a, .int b] [(0, V0), (2, V2), (3, V3)] r := by
  refine V_methodX [(0, .ref (wA G 0 0)), (1, .int a), (2, .int b)] (by decide) rfl (Nat.le_of_ble_eq_true rfl) rfl (fun Γ hF => ?_)
  unfold pX10_mean at hf
  refine v_aload_n (pc := 0) 0 dX10_mean_0 rfl ?_
  refine v_iload_n (pc := 1) 1 dX10_mean_1 rfl ?_
  replace hf := bd_some hf; obtain ⟨r1, h2, hf⟩ := hf
  refine V_call (pc := 2) (us1 := [_, _, _]) [0, 1] 0 (kX10_isPerson  h2) rfl rfl rfl rfl rfl rfl (Nat.le_of_ble_eq_true rfl) rfl rfl rfl wm_RX10_122 md_X10_isPerson (Nat.le_of_ble_eq_true rfl) (Nat.le_of_ble_eq_true rfl) rfl rfl (Nat.le_of_ble_eq_true rfl) dX10_mean_2 ?_
  refine v_if_eq (pc := 5) 17 dX10_mean_5 (by decide) (fun c3 => ?_) (fun c3 => ?_)
  · replace hf := it_t c3 hf
    have hf2 := Option.some.inj hf; subst hf2
    exact V_throwXW (pc := 17) hF (fun U h => h.2.2.1) (Nat.le_of_ble_eq_true rfl) (Nat.le_of_ble_eq_true rfl) (Nat.le_of_ble_eq_true rfl) dX10_mean_17 dX10_mean_20 dX10_mean_21 dX10_mean_24 dX10_mean_27
  · replace hf := it_f c3 hf
    refine v_iload_n (pc := 8) 2 dX10_mean_8 rfl ?_
    refine v_if_lt (pc := 9) 17 dX10_mean_9 (by decide) (fun c4 => ?_) (fun c4 => ?_)
    · replace hf := it_t c4 hf
      have hf2 := Option.some.inj hf; subst hf2
      exact V_throwXW (pc := 17) hF (fun U h => h.2.2.1) (Nat.le_of_ble_eq_true rfl) (Nat.le_of_ble_eq_true rfl) (Nat.le_of_ble_eq_true rfl) dX10_mean_17 dX10_mean_20 dX10_mean_21 dX10_mean_24 dX10_mean_27
    · replace hf := it_f c4 hf
      refine v_iload_n (pc := 12) 2 dX10_mean_12 rfl ?_
      refine v_iconst (pc := 13) (1 : Int32) dX10_mean_13 ci_1 ?_
      refine v_icmp_le (pc := 14) 28 dX10_mean_14 (by decide) (fun c5 => ?_) (fun c5 => ?_)
      · replace hf := it_t c5 hf
        refine v_aload_n (pc := 28) 0 dX10_mean_28 rfl ?_
        refine gf_RX10_26 (pc := 29) 0 rfl rfl dX10_mean_29 ?_
        refine v_iload_n (pc := 32) 1 dX10_mean_32 rfl ?_
        replace hf := bd_some hf; obtain ⟨r6, h7, hf⟩ := hf
        refine V_call (pc := 33) (us1 := [_, _, _]) [2] 2 (kX6_knotsOf (o := 3) rfl h7) rfl rfl rfl rfl rfl rfl (Nat.le_of_ble_eq_true rfl) rfl rfl rfl wm_RX10_143 md_X6_knotsOf (Nat.le_of_ble_eq_true rfl) (Nat.le_of_ble_eq_true rfl) rfl rfl (Nat.le_of_ble_eq_true rfl) dX10_mean_33 ?_
        refine v_istore_n (pc := 36) [(3, _), (0, _), (1, _), (2, _)] dX10_mean_36 (Nat.le_of_ble_eq_true rfl) rfl ?_
        refine v_iload_n (pc := 37) 0 dX10_mean_37 rfl ?_
        refine v_iconst (pc := 38) (1 : Int32) dX10_mean_38 ci_1 ?_
        refine v_icmp_ge (pc := 39) 53 dX10_mean_39 (by decide) (fun c8 => ?_) (fun c8 => ?_)
        · replace hf := it_t c8 hf
          refine v_aload_n (pc := 53) 1 dX10_mean_53 rfl ?_
          refine gf_RX10_26 (pc := 54) 0 rfl rfl dX10_mean_54 ?_
          refine v_aload_n (pc := 57) 1 dX10_mean_57 rfl ?_
          refine gf_RX10_19 (pc := 58) 0 rfl rfl dX10_mean_58 ?_
          refine v_iload_n (pc := 61) 2 dX10_mean_61 rfl ?_
          replace hf := bd_some hf; obtain ⟨r9, h10, hf⟩ := hf
          refine V_call (pc := 62) (us1 := [_, _, _]) [2, 1] 2 (kX6_allHolds (o := 3) (oa := 2) rfl rfl h10) rfl rfl rfl rfl rfl rfl (Nat.le_of_ble_eq_true rfl) rfl rfl rfl wm_RX10_151 md_X6_allHolds (Nat.le_of_ble_eq_true rfl) (Nat.le_of_ble_eq_true rfl) rfl rfl (Nat.le_of_ble_eq_true rfl) dX10_mean_62 ?_
          refine v_istore (pc := 65) [(4, _), (3, _), (0, _), (1, _), (2, _)] dX10_mean_65 (Nat.le_of_ble_eq_true rfl) rfl ?_
          refine v_iload_n (pc := 67) 1 dX10_mean_67 rfl ?_
          refine v_istore (pc := 68) [(5, _), (4, _), (3, _), (0, _), (1, _), (2, _)] dX10_mean_68 (Nat.le_of_ble_eq_true rfl) rfl ?_
          refine v_iload_n (pc := 70) 2 dX10_mean_70 rfl ?_
          refine v_istore (pc := 71) [(6, _), (5, _), (4, _), (3, _), (0, _), (1, _), (2, _)] dX10_mean_71 (Nat.le_of_ble_eq_true rfl) rfl ?_
          replace hf := bd_some hf; obtain ⟨r18, h19, hf⟩ := hf
          refine V_sub [6, 2, 1, 0] rfl (wX10_mean_l73  fu h19 ?_)
          refine v_iload_n (pc := 115) 0 dX10_mean_115 rfl ?_
          refine v_if_ne (pc := 116) 124 dX10_mean_116 (by decide) (fun c20 => ?_) (fun c20 => ?_)
          · replace hf := it_f c20 hf
            refine v_iload (pc := 124) 2 dX10_mean_124 rfl ?_
            have hf2 := Option.some.inj hf; subst hf2
            exact V_iretX (pc := 126) hF dX10_mean_126
          · replace hf := it_t c20 hf
            refine v_iload (pc := 119) 1 dX10_mean_119 rfl ?_
            refine v_goto (pc := 121) 126 dX10_mean_121 (by decide) ?_
            have hf2 := Option.some.inj hf; subst hf2
            exact V_iretX (pc := 126) hF dX10_mean_126
        · replace hf := it_f c8 hf
          have hf2 := Option.some.inj hf; subst hf2
          exact V_throwXW (pc := 42) hF (fun U h => h.2.2.2) (Nat.le_of_ble_eq_true rfl) (Nat.le_of_ble_eq_true rfl) (Nat.le_of_ble_eq_true rfl) dX10_mean_42 dX10_mean_45 dX10_mean_46 dX10_mean_49 dX10_mean_52
      · replace hf := it_f c5 hf
        have hf2 := Option.some.inj hf; subst hf2
        exact V_throwXW (pc := 17) hF (fun U h => h.2.2.1) (Nat.le_of_ble_eq_true rfl) (Nat.le_of_ble_eq_true rfl) (Nat.le_of_ble_eq_true rfl) dX10_mean_17 dX10_mean_20 dX10_mean_21 dX10_mean_24 dX10_mean_27
