set_option maxRecDepth 20000 in
theorem kX10_drawn {G : Wc} {V0 : Ob} {V3 : Ob} {V5 : Ob} {K : (Nat → Ob)} {V2 : Ob} {a : Int32} {b : Int32} {r : Int32 × Ob × Ob × (Nat → Ob)}  (hf : pX10_drawn V0 V3 V5 K V2  a b = some r) : Cn yX10_drawn cX10_drawn 4 (some .int) 7 202 G [.ref (wA G 0 0), .int a, .int b] [(0, V0), (3, V3), (5, V5), (14, K 0), (15, K 1), (16, K 2), (17, K 3), (18, K 4), (19, K 5), (20, K 6), (21, K 7), (2, V2)] [(0, V0), (3, r.2.1), (5, r.2.2.1), (14, r.2.2.2 0), (15, r.2.2.2 1), (16, r.2.2.2 2), (17, r.2.2.2 3), (18, r.2.2.2 4), (19, r.2.2.2 5), (20, r.2.2.2 6), (21, r.2.2.2 7), (2, V2)] (some (.int r.1)) := by
  refine V_method [(0, .ref (wA G 0 0)), (1, .int a), (2, .int b)] (by decide) rfl (Nat.le_of_ble_eq_true rfl) rfl (fun Γ hF => ?_)
  unfold pX10_drawn at hf
  refine v_iload_n (pc := 0) 1 dX10_drawn_0 rfl ?_
  refine v_iconst (pc := 1) (1 : Int32) dX10_drawn_1 ci_1 ?_
  refine v_icmp_lt (pc := 2) 11 dX10_drawn_2 (by decide) (fun c1 => ?_) (fun c1 => ?_)
  · replace hf := it_t c1 hf
    refine v_iconst (pc := 11) (-1 : Int32) dX10_drawn_11 ci_m1 ?_
    have hf2 := Option.some.inj hf; subst hf2
    exact V_iret (pc := 12) hF dX10_drawn_12
  · replace hf := it_f c1 hf
    refine v_iload_n (pc := 5) 1 dX10_drawn_5 rfl ?_
    refine v_bipush (pc := 6) (60 : Int32) dX10_drawn_6 cb_60 ?_
    refine v_icmp_le (pc := 8) 13 dX10_drawn_8 (by decide) (fun c2 => ?_) (fun c2 => ?_)
    · replace hf := it_t c2 hf
      refine v_iload_n (pc := 13) 1 dX10_drawn_13 rfl ?_
      refine v_aload_n (pc := 14) 0 dX10_drawn_14 rfl ?_
      refine gf_RX10_26 (pc := 15) 0 rfl rfl dX10_drawn_15 ?_
      replace hf := bd_some hf; obtain ⟨r3, h4, hf⟩ := hf
      refine V_call (pc := 18) (us1 := [_, _, _, _, _, _, _, _, _, _, _, _]) [1] 1 (kX6_daysLeft (o := 3) rfl h4) rfl rfl rfl rfl rfl rfl (Nat.le_of_ble_eq_true rfl) rfl rfl rfl wm_RX10_247 md_X6_daysLeft (Nat.le_of_ble_eq_true rfl) (Nat.le_of_ble_eq_true rfl) rfl rfl (Nat.le_of_ble_eq_true rfl) dX10_drawn_18 ?_
      refine v_mmin (pc := 21) wm_RX10_251 (Nat.le_of_ble_eq_true rfl) (Nat.le_of_ble_eq_true rfl) (Nat.le_of_ble_eq_true rfl) dX10_drawn_21 ?_
      refine v_istore_n (pc := 24) [(3, _), (0, _), (1, _), (2, _)] dX10_drawn_24 (Nat.le_of_ble_eq_true rfl) rfl ?_
      refine v_iload_n (pc := 25) 0 dX10_drawn_25 rfl ?_
      refine v_if_le (pc := 26) 53 dX10_drawn_26 (by decide) (fun c5 => ?_) (fun c5 => ?_)
      · replace hf := it_t c5 hf
        refine v_iload_n (pc := 53) 0 dX10_drawn_53 rfl ?_
        have hf2 := Option.some.inj hf; subst hf2
        exact V_iret (pc := 54) hF dX10_drawn_54
      · replace hf := it_f c5 hf
        refine v_aload_n (pc := 29) 1 dX10_drawn_29 rfl ?_
        refine gf_RX10_40 (pc := 30) 0 rfl rfl dX10_drawn_30 ?_
        refine v_aload_n (pc := 33) 1 dX10_drawn_33 rfl ?_
        refine gf_RX10_26 (pc := 34) 0 rfl rfl dX10_drawn_34 ?_
        replace hf := bd_some hf; obtain ⟨r6, h7, hf⟩ := hf
        refine V_call (pc := 37) (us1 := [_, _, _, _, _, _, _, _, _, _, _, _]) [2, 1, 3, 4, 5, 6, 7, 8, 9, 10] 2 (kX2_keep (oa := 3) rfl h7) rfl rfl rfl rfl rfl rfl (Nat.le_of_ble_eq_true rfl) rfl rfl rfl wm_RX10_221 md_X2_keep (Nat.le_of_ble_eq_true rfl) (Nat.le_of_ble_eq_true rfl) rfl rfl (Nat.le_of_ble_eq_true rfl) dX10_drawn_37 ?_
        refine v_aload_n (pc := 40) 1 dX10_drawn_40 rfl ?_
        refine gf_RX10_26 (pc := 41) 0 rfl rfl dX10_drawn_41 ?_
        refine v_aload_n (pc := 44) 1 dX10_drawn_44 rfl ?_
        refine gf_RX10_19 (pc := 45) 0 rfl rfl dX10_drawn_45 ?_
        refine v_iload_n (pc := 48) 0 dX10_drawn_48 rfl ?_
        refine v_iload_n (pc := 49) 3 dX10_drawn_49 rfl ?_
        replace hf := bd_some hf; obtain ⟨r8, h9, hf⟩ := hf
        refine V_call (pc := 50) (us1 := [_, _, _, _, _, _, _, _, _, _, _, _]) [1, 11] 1 (kX6_letDrawnDaysGo (o := 3) (oa := 2) rfl rfl h9) rfl rfl rfl rfl rfl rfl (Nat.le_of_ble_eq_true rfl) rfl rfl rfl wm_RX10_312 md_X6_letDrawnDaysGo (Nat.le_of_ble_eq_true rfl) (Nat.le_of_ble_eq_true rfl) rfl rfl (Nat.le_of_ble_eq_true rfl) dX10_drawn_50 ?_
        refine v_iload_n (pc := 53) 0 dX10_drawn_53 rfl ?_
        have hf2 := Option.some.inj hf; subst hf2
        exact V_iret (pc := 54) hF dX10_drawn_54
    · replace hf := it_f c2 hf
      refine v_iconst (pc := 11) (-1 : Int32) dX10_drawn_11 ci_m1 ?_
      have hf2 := Option.some.inj hf; subst hf2
      exact V_iret (pc := 12) hF dX10_drawn_12
set_option maxRecDepth 20000 in
theorem wX10_odds_l27 {G : Wc} {Γ : Cx} {V0 : Ob} {V2 : Ob} {V3 : Ob} {l1 : Int32} {l2 : Int32} {l3 : Int32}  : ∀ (n : Nat) {l4 : Int32} {l5 : Int32} {V13 : Ob} {r : Int32 × Ob}, pX10_odds_l27 V0 V2 V3 l1 l2 l3 n l4 l5 V13 = some r → V cX10_odds RX10 7 202 6 G Γ [(0, V0), (2, V2), (13, r.2), (3, V3)] 91 [(4, .int r.1)] [] → V cX10_odds RX10 7 202 6 G Γ [(0, V0), (2, V2), (13, V13), (3, V3)] 27 [(0, .ref (wA G 0 0)), (1, .int l1), (2, .int l2), (3, .int l3), (4, .int l4), (5, .int l5)] [] := by
  intro n
  induction n with
  | zero => intro l4 l5 V13 r hf hx; unfold pX10_odds_l27 at hf; cases hf
  | succ n ih =>
    intro l4 l5 V13 r hf hx
    have hrec : ∀ {l4 : Int32} {l5 : Int32} {V13 : Ob}, pX10_odds_l27 V0 V2 V3 l1 l2 l3 n l4 l5 V13 = some r → V cX10_odds RX10 7 202 6 G Γ [(0, V0), (2, V2), (13, V13), (3, V3)] 27 [(0, .ref (wA G 0 0)), (1, .int l1), (2, .int l2), (3, .int l3), (4, .int l4), (5, .int l5)] [] := fun h => ih h hx
    clear ih
    unfold pX10_odds_l27 at hf
    refine v_iload (pc := 27) 5 dX10_odds_27 rfl ?_
    refine v_iload_n (pc := 29) 2 dX10_odds_29 rfl ?_
    refine v_icmp_ge (pc := 30) 91 dX10_odds_30 (by decide) (fun c6 => ?_) (fun c6 => ?_)
    · replace hf := it_t c6 hf
      have hf2 := Option.some.inj hf; subst hf2
      exact V_sub [4] rfl hx
    · replace hf := it_f c6 hf
      refine v_aload_n (pc := 33) 0 dX10_odds_33 rfl ?_
      refine gf_RX10_78 (pc := 34) 0 rfl rfl dX10_odds_34 ?_
      refine v_aload_n (pc := 37) 0 dX10_odds_37 rfl ?_
      refine gf_RX10_26 (pc := 38) 0 rfl rfl dX10_odds_38 ?_
      replace hf := bd_some hf; obtain ⟨r7, h8, hf⟩ := hf
      refine V_call (pc := 41) (us1 := [_, _, _, _]) [2, 3] 2 (kX6_copyFrom (o := 13) (oa := 3) rfl rfl h8) rfl rfl rfl rfl rfl rfl (Nat.le_of_ble_eq_true rfl) rfl rfl rfl wm_RX10_115 md_X6_copyFrom (Nat.le_of_ble_eq_true rfl) (Nat.le_of_ble_eq_true rfl) rfl rfl (Nat.le_of_ble_eq_true rfl) dX10_odds_41 ?_
      refine v_aload_n (pc := 44) 0 dX10_odds_44 rfl ?_
      refine gf_RX10_78 (pc := 45) 0 rfl rfl dX10_odds_45 ?_
      refine v_aload_n (pc := 48) 0 dX10_odds_48 rfl ?_
      refine gf_RX10_19 (pc := 49) 0 rfl rfl dX10_odds_49 ?_
      refine v_bipush (pc := 52) (10 : Int32) dX10_odds_52 cb_10 ?_
      refine v_aload_n (pc := 54) 0 dX10_odds_54 rfl ?_
      refine gf_RX10_78 (pc := 55) 0 rfl rfl dX10_odds_55 ?_
      replace hf := bd_some hf; obtain ⟨r9, h10, hf⟩ := hf
      refine V_call (pc := 58) (us1 := [_, _, _, _]) [2] 2 (kX6_daysLeft (o := 13) rfl h10) rfl rfl rfl rfl rfl rfl (Nat.le_of_ble_eq_true rfl) rfl rfl rfl wm_RX10_247 md_X6_daysLeft (Nat.le_of_ble_eq_true rfl) (Nat.le_of_ble_eq_true rfl) rfl rfl (Nat.le_of_ble_eq_true rfl) dX10_odds_58 ?_
      refine v_mmin (pc := 61) wm_RX10_251 (Nat.le_of_ble_eq_true rfl) (Nat.le_of_ble_eq_true rfl) (Nat.le_of_ble_eq_true rfl) dX10_odds_61 ?_
      refine v_iload_n (pc := 64) 3 dX10_odds_64 rfl ?_
      refine v_iload (pc := 65) 5 dX10_odds_65 rfl ?_
      refine v_iadd (pc := 67) dX10_odds_67 ?_
      replace hf := bd_some hf; obtain ⟨r11, h12, hf⟩ := hf
      refine V_call (pc := 68) (us1 := [_, _, _, _]) [2, 1] 2 (kX6_letDrawnDaysGo (o := 13) (oa := 2) rfl rfl h12) rfl rfl rfl rfl rfl rfl (Nat.le_of_ble_eq_true rfl) rfl rfl rfl wm_RX10_312 md_X6_letDrawnDaysGo (Nat.le_of_ble_eq_true rfl) (Nat.le_of_ble_eq_true rfl) rfl rfl (Nat.le_of_ble_eq_true rfl) dX10_odds_68 ?_
      refine v_aload_n (pc := 71) 0 dX10_odds_71 rfl ?_
      refine gf_RX10_78 (pc := 72) 0 rfl rfl dX10_odds_72 ?_
      refine v_iload_n (pc := 75) 1 dX10_odds_75 rfl ?_
      replace hf := bd_some hf; obtain ⟨r13, h14, hf⟩ := hf
      refine V_call (pc := 76) (us1 := [_, _, _, _]) [2] 2 (kX6_isNest (o := 13) rfl h14) rfl rfl rfl rfl rfl rfl (Nat.le_of_ble_eq_true rfl) rfl rfl rfl wm_RX10_154 md_X6_isNest (Nat.le_of_ble_eq_true rfl) (Nat.le_of_ble_eq_true rfl) rfl rfl (Nat.le_of_ble_eq_true rfl) dX10_odds_76 ?_
      refine v_if_eq (pc := 79) 85 dX10_odds_79 (by decide) (fun c15 => ?_) (fun c15 => ?_)
      · replace hf := it_t c15 hf
        refine v_iinc (pc := 85) 5 (l5 + (1 : Int32)) [(5, _), (0, _), (1, _), (2, _), (3, _), (4, _)] dX10_odds_85 rfl (congrArg (fun z => _ + z) ci_1) (Nat.le_of_ble_eq_true rfl) rfl ?_
        refine v_goto (pc := 88) 27 dX10_odds_88 (by decide) ?_
        exact V_sub [1, 2, 3, 4, 5, 0] rfl (hrec hf)
      · replace hf := it_f c15 hf
        refine v_iinc (pc := 82) 4 (l4 + (1 : Int32)) [(4, _), (0, _), (1, _), (2, _), (3, _), (5, _)] dX10_odds_82 rfl (congrArg (fun z => _ + z) ci_1) (Nat.le_of_ble_eq_true rfl) rfl ?_
        refine v_iinc (pc := 85) 5 (l5 + (1 : Int32)) [(5, _), (4, _), (0, _), (1, _), (2, _), (3, _)] dX10_odds_85 rfl (congrArg (fun z => _ + z) ci_1) (Nat.le_of_ble_eq_true rfl) rfl ?_
        refine v_goto (pc := 88) 27 dX10_odds_88 (by decide) ?_
        exact V_sub [2, 3, 4, 5, 1, 0] rfl (hrec hf)
set_option maxRecDepth 20000 in
theorem kX10_odds {G : Wc} {V0 : Ob} {V2 : Ob} {V13 : Ob} {V3 : Ob} {a : Int32} {b : Int32} {c : Int32} {r : Int32 × Ob}  (hf : pX10_odds V0 V2 V13 V3  a b c = some r) : Cn yX10_odds cX10_odds 6 (some .int) 7 202 G [.ref (wA G 0 0), .int a, .int b, .int c] [(0, V0), (2, V2), (13, V13), (3, V3)] [(0, V0), (2, V2), (13, r.2), (3, V3)] (some (.int r.1)) := by
  refine V_method [(0, .ref (wA G 0 0)), (1, .int a), (2, .int b), (3, .int c)] (by decide) rfl (Nat.le_of_ble_eq_true rfl) rfl (fun Γ hF => ?_)
  unfold pX10_odds at hf
  refine v_aload_n (pc := 0) 0 dX10_odds_0 rfl ?_
  refine v_iload_n (pc := 1) 1 dX10_odds_1 rfl ?_
  replace hf := bd_some hf; obtain ⟨r1, h2, hf⟩ := hf
  refine V_call (pc := 2) (us1 := [_, _, _, _]) [0, 1] 0 (kX10_isPerson  h2) rfl rfl rfl rfl rfl rfl (Nat.le_of_ble_eq_true rfl) rfl rfl rfl wm_RX10_122 md_X10_isPerson (Nat.le_of_ble_eq_true rfl) (Nat.le_of_ble_eq_true rfl) rfl rfl (Nat.le_of_ble_eq_true rfl) dX10_odds_2 ?_
  refine v_if_eq (pc := 5) 19 dX10_odds_5 (by decide) (fun c3 => ?_) (fun c3 => ?_)
  · replace hf := it_t c3 hf
    refine v_iconst (pc := 19) (-1 : Int32) dX10_odds_19 ci_m1 ?_
    have hf2 := Option.some.inj hf; subst hf2
    exact V_iret (pc := 20) hF dX10_odds_20
  · replace hf := it_f c3 hf
    refine v_iload_n (pc := 8) 2 dX10_odds_8 rfl ?_
    refine v_iconst (pc := 9) (1 : Int32) dX10_odds_9 ci_1 ?_
    refine v_icmp_lt (pc := 10) 19 dX10_odds_10 (by decide) (fun c4 => ?_) (fun c4 => ?_)
    · replace hf := it_t c4 hf
      refine v_iconst (pc := 19) (-1 : Int32) dX10_odds_19 ci_m1 ?_
      have hf2 := Option.some.inj hf; subst hf2
      exact V_iret (pc := 20) hF dX10_odds_20
    · replace hf := it_f c4 hf
      refine v_iload_n (pc := 13) 2 dX10_odds_13 rfl ?_
      refine v_bipush (pc := 14) (30 : Int32) dX10_odds_14 cb_30 ?_
      refine v_icmp_le (pc := 16) 21 dX10_odds_16 (by decide) (fun c5 => ?_) (fun c5 => ?_)
      · replace hf := it_t c5 hf
        refine v_iconst (pc := 21) (0 : Int32) dX10_odds_21 ci_0 ?_
        refine v_istore (pc := 22) [(4, _), (0, _), (1, _), (2, _), (3, _)] dX10_odds_22 (Nat.le_of_ble_eq_true rfl) rfl ?_
        refine v_iconst (pc := 24) (0 : Int32) dX10_odds_24 ci_0 ?_
        refine v_istore (pc := 25) [(5, _), (4, _), (0, _), (1, _), (2, _), (3, _)] dX10_odds_25 (Nat.le_of_ble_eq_true rfl) rfl ?_
        replace hf := bd_some hf; obtain ⟨r16, h17, hf⟩ := hf
        refine V_sub [2, 3, 4, 5, 1, 0] rfl (wX10_odds_l27  fu h17 ?_)
        refine v_iload (pc := 91) 0 dX10_odds_91 rfl ?_
        have hf2 := Option.some.inj hf; subst hf2
        exact V_iret (pc := 93) hF dX10_odds_93
      · replace hf := it_f c5 hf
        refine v_iconst (pc := 19) (-1 : Int32) dX10_odds_19 ci_m1 ?_
        have hf2 := Option.some.inj hf; subst hf2
        exact V_iret (pc := 20) hF dX10_odds_20
set_option maxRecDepth 20000 in
theorem wX10_book_j128 {G : Wc} {Γ : Cx} {V0 : Ob} {V9 : Ob} {V1 : Ob} {V2 : Ob} {V13 : Ob} {V3 : Ob} {V5 : Ob} {K : (Nat → Ob)} {r : Int32 × Ob × Ob × Ob × Ob × Ob × Ob × (Nat → Ob)}  (hF : Fnl G Γ (some .int) (some (.int r.1)) (ov Γ.2.2.2 [(0, r.2.1), (9, r.2.2.1), (1, r.2.2.2.1), (2, V2), (13, r.2.2.2.2.1), (3, r.2.2.2.2.2.1), (5, r.2.2.2.2.2.2.1), (14, r.2.2.2.2.2.2.2 0), (15, r.2.2.2.2.2.2.2 1), (16, r.2.2.2.2.2.2.2 2), (17, r.2.2.2.2.2.2.2 3), (18, r.2.2.2.2.2.2.2 4), (19, r.2.2.2.2.2.2.2 5), (20, r.2.2.2.2.2.2.2 6), (21, r.2.2.2.2.2.2.2 7)])) (hf : pX10_book_j128 V0 V9 V1 V2 V13 V3 V5 K = some r) : V cX10_book RX10 8 226 2 G Γ [(0, V0), (9, V9), (1, V1), (2, V2), (13, V13), (3, V3), (5, V5), (14, K 0), (15, K 1), (16, K 2), (17, K 3), (18, K 4), (19, K 5), (20, K 6), (21, K 7)] 128 [(0, .ref (wA G 0 0))] [] := by
  unfold pX10_book_j128 at hf
  refine v_aload_n (pc := 128) 0 dX10_book_128 rfl ?_
  refine gf_RX10_61 (pc := 129) 0 rfl rfl dX10_book_129 ?_
  refine gf_RX10_325 (pc := 132) 1 rfl rfl dX10_book_132 ?_
  refine v_if_ne (pc := 135) 142 dX10_book_135 (by decide) (fun c11 => ?_) (fun c11 => ?_)
  · replace hf := it_f c11 hf
    refine v_aload_n (pc := 142) 0 dX10_book_142 rfl ?_
    refine gf_RX10_61 (pc := 143) 0 rfl rfl dX10_book_143 ?_
    refine gf_RX10_322 (pc := 146) 1 rfl rfl dX10_book_146 ?_
    have hf2 := Option.some.inj hf; subst hf2
    exact V_iret (pc := 149) hF dX10_book_149
  · replace hf := it_t c11 hf
    refine v_iconst (pc := 138) (-1 : Int32) dX10_book_138 ci_m1 ?_
    refine v_goto (pc := 139) 149 dX10_book_139 (by decide) ?_
    have hf2 := Option.some.inj hf; subst hf2
    exact V_iret (pc := 149) hF dX10_book_149
set_option maxRecDepth 20000 in
theorem kX10_book {G : Wc} {V0 : Ob} {V9 : Ob} {V1 : Ob} {V2 : Ob} {V13 : Ob} {V3 : Ob} {V5 : Ob} {K : (Nat → Ob)} {a : Int32} {r : Int32 × Ob × Ob × Ob × Ob × Ob × Ob × (Nat → Ob)}  (hf : pX10_book V0 V9 V1 V2 V13 V3 V5 K  a = some r) : Cn yX10_book cX10_book 2 (some .int) 8 226 G [.ref (wA G 0 0), .int a] [(0, V0), (9, V9), (1, V1), (2, V2), (13, V13), (3, V3), (5, V5), (14, K 0), (15, K 1), (16, K 2), (17, K 3), (18, K 4), (19, K 5), (20, K 6), (21, K 7)] [(0, r.2.1), (9, r.2.2.1), (1, r.2.2.2.1), (2, V2), (13, r.2.2.2.2.1), (3, r.2.2.2.2.2.1), (5, r.2.2.2.2.2.2.1), (14, r.2.2.2.2.2.2.2 0), (15, r.2.2.2.2.2.2.2 1), (16, r.2.2.2.2.2.2.2 2), (17, r.2.2.2.2.2.2.2 3), (18, r.2.2.2.2.2.2.2 4), (19, r.2.2.2.2.2.2.2 5), (20, r.2.2.2.2.2.2.2 6), (21, r.2.2.2.2.2.2.2 7)] (some (.int r.1)) := by
  refine V_method [(0, .ref (wA G 0 0)), (1, .int a)] (by decide) rfl (Nat.le_of_ble_eq_true rfl) rfl (fun Γ hF => ?_)
  unfold pX10_book at hf
  refine v_iload_n (pc := 0) 1 dX10_book_0 rfl ?_
  refine v_if_lt (pc := 1) 9 dX10_book_1 (by decide) (fun c1 => ?_) (fun c1 => ?_)
  · replace hf := it_t c1 hf
    refine v_sipush (pc := 9) (-1000 : Int32) dX10_book_9 cs_m1000 ?_
    have hf2 := Option.some.inj hf; subst hf2
    exact V_iret (pc := 12) hF dX10_book_12
  · replace hf := it_f c1 hf
    refine v_iload_n (pc := 4) 1 dX10_book_4 rfl ?_
    refine v_iconst (pc := 5) (1 : Int32) dX10_book_5 ci_1 ?_
    refine v_icmp_le (pc := 6) 13 dX10_book_6 (by decide) (fun c2 => ?_) (fun c2 => ?_)
    · replace hf := it_t c2 hf
      refine v_aload_n (pc := 13) 0 dX10_book_13 rfl ?_
      refine gf_RX10_61 (pc := 14) 0 rfl rfl dX10_book_14 ?_
      refine v_aload_n (pc := 17) 0 dX10_book_17 rfl ?_
      refine gf_RX10_10 (pc := 18) 0 rfl rfl dX10_book_18 ?_
      refine v_aload_n (pc := 21) 0 dX10_book_21 rfl ?_
      refine gf_RX10_19 (pc := 22) 0 rfl rfl dX10_book_22 ?_
      replace hf := bd_some hf; obtain ⟨r3, h4, hf⟩ := hf
      refine V_call (pc := 25) (us1 := [_, _, _, _, _, _, _, _, _, _, _, _, _, _, _]) [1, 2, 3] 1 (kX0_readFrom (o := 9) (oa := 1) (ob := 2) rfl rfl rfl h4) rfl rfl rfl rfl rfl rfl (Nat.le_of_ble_eq_true rfl) rfl rfl rfl wm_RX10_315 md_X0_readFrom (Nat.le_of_ble_eq_true rfl) (Nat.le_of_ble_eq_true rfl) rfl rfl (Nat.le_of_ble_eq_true rfl) dX10_book_25 ?_
      refine v_aload_n (pc := 28) 0 dX10_book_28 rfl ?_
      refine gf_RX10_10 (pc := 29) 0 rfl rfl dX10_book_29 ?_
      refine v_iconst (pc := 32) (0 : Int32) dX10_book_32 ci_0 ?_
      refine pf_RX10_94 (pc := 33) [_, _, _, _, _, _, _, _, _, _, _, _, _, _, _] 2 rfl rfl rfl dX10_book_33 ?_
      refine v_aload_n (pc := 36) 0 dX10_book_36 rfl ?_
      refine v_aload_n (pc := 37) 0 dX10_book_37 rfl ?_
      refine gf_RX10_10 (pc := 38) 0 rfl rfl dX10_book_38 ?_
      refine gf_RX10_105 (pc := 41) 2 rfl rfl dX10_book_41 ?_
      refine pf_RX10_81 (pc := 44) [_, _, _, _, _, _, _, _, _, _, _, _, _, _, _] 0 rfl rfl rfl dX10_book_44 ?_
      refine v_aload_n (pc := 47) 0 dX10_book_47 rfl ?_
      refine gf_RX10_81 (pc := 48) 0 rfl rfl dX10_book_48 ?_
      refine v_if_eq (pc := 51) 65 dX10_book_51 (by decide) (fun c5 => ?_) (fun c5 => ?_)
      · replace hf := it_t c5 hf
        refine v_aload_n (pc := 65) 0 dX10_book_65 rfl ?_
        refine gf_RX10_78 (pc := 66) 0 rfl rfl dX10_book_66 ?_
        refine v_aload_n (pc := 69) 0 dX10_book_69 rfl ?_
        refine gf_RX10_26 (pc := 70) 0 rfl rfl dX10_book_70 ?_
        replace hf := bd_some hf; obtain ⟨r6, h7, hf⟩ := hf
        refine V_call (pc := 73) (us1 := [_, _, _, _, _, _, _, _, _, _, _, _, _, _, _]) [4, 5] 4 (kX6_copyFrom (o := 13) (oa := 3) rfl rfl h7) rfl rfl rfl rfl rfl rfl (Nat.le_of_ble_eq_true rfl) rfl rfl rfl wm_RX10_115 md_X6_copyFrom (Nat.le_of_ble_eq_true rfl) (Nat.le_of_ble_eq_true rfl) rfl rfl (Nat.le_of_ble_eq_true rfl) dX10_book_73 ?_
        refine v_aload_n (pc := 76) 0 dX10_book_76 rfl ?_
        refine gf_RX10_61 (pc := 77) 0 rfl rfl dX10_book_77 ?_
        refine v_aload_n (pc := 80) 0 dX10_book_80 rfl ?_
        refine gf_RX10_19 (pc := 81) 0 rfl rfl dX10_book_81 ?_
        refine v_aload_n (pc := 84) 0 dX10_book_84 rfl ?_
        refine gf_RX10_78 (pc := 85) 0 rfl rfl dX10_book_85 ?_
        replace hf := bd_some hf; obtain ⟨r8, h9, hf⟩ := hf
        refine V_call (pc := 88) (us1 := [_, _, _, _, _, _, _, _, _, _, _, _, _, _, _]) [1, 3, 4] 1 (kX0_live (o := 9) (oa := 2) (ob := 13) rfl rfl rfl h9) rfl rfl rfl rfl rfl rfl (Nat.le_of_ble_eq_true rfl) rfl rfl rfl wm_RX10_318 md_X0_live (Nat.le_of_ble_eq_true rfl) (Nat.le_of_ble_eq_true rfl) rfl rfl (Nat.le_of_ble_eq_true rfl) dX10_book_88 ?_
        refine v_iload_n (pc := 91) 1 dX10_book_91 rfl ?_
        refine v_iconst (pc := 92) (1 : Int32) dX10_book_92 ci_1 ?_
        refine v_icmp_ne (pc := 93) 128 dX10_book_93 (by decide) (fun c10 => ?_) (fun c10 => ?_)
        · replace hf := it_f c10 hf
          exact V_sub [0] rfl (wX10_book_j128  hF hf)
        · replace hf := it_t c10 hf
          refine v_aload_n (pc := 96) 0 dX10_book_96 rfl ?_
          refine gf_RX10_61 (pc := 97) 0 rfl rfl dX10_book_97 ?_
          refine gf_RX10_322 (pc := 100) 1 rfl rfl dX10_book_100 ?_
          refine v_if_le (pc := 103) 128 dX10_book_103 (by decide) (fun c12 => ?_) (fun c12 => ?_)
          · replace hf := it_t c12 hf
            exact V_sub [0] rfl (wX10_book_j128  hF hf)
          · replace hf := it_f c12 hf
            refine v_aload_n (pc := 106) 0 dX10_book_106 rfl ?_
            refine gf_RX10_40 (pc := 107) 0 rfl rfl dX10_book_107 ?_
            refine v_aload_n (pc := 110) 0 dX10_book_110 rfl ?_
            refine gf_RX10_26 (pc := 111) 0 rfl rfl dX10_book_111 ?_
            replace hf := bd_some hf; obtain ⟨r13, h14, hf⟩ := hf
            refine V_call (pc := 114) (us1 := [_, _, _, _, _, _, _, _, _, _, _, _, _, _, _]) [6, 5, 7, 8, 9, 10, 11, 12, 13, 14] 6 (kX2_keep (oa := 3) rfl h14) rfl rfl rfl rfl rfl rfl (Nat.le_of_ble_eq_true rfl) rfl rfl rfl wm_RX10_221 md_X2_keep (Nat.le_of_ble_eq_true rfl) (Nat.le_of_ble_eq_true rfl) rfl rfl (Nat.le_of_ble_eq_true rfl) dX10_book_114 ?_
            refine v_aload_n (pc := 117) 0 dX10_book_117 rfl ?_
            refine gf_RX10_26 (pc := 118) 0 rfl rfl dX10_book_118 ?_
            refine v_aload_n (pc := 121) 0 dX10_book_121 rfl ?_
            refine gf_RX10_78 (pc := 122) 0 rfl rfl dX10_book_122 ?_
            replace hf := bd_some hf; obtain ⟨r15, h16, hf⟩ := hf
            refine V_call (pc := 125) (us1 := [_, _, _, _, _, _, _, _, _, _, _, _, _, _, _]) [5, 4] 5 (kX6_copyFrom (o := 3) (oa := 13) rfl rfl h16) rfl rfl rfl rfl rfl rfl (Nat.le_of_ble_eq_true rfl) rfl rfl rfl wm_RX10_115 md_X6_copyFrom (Nat.le_of_ble_eq_true rfl) (Nat.le_of_ble_eq_true rfl) rfl rfl (Nat.le_of_ble_eq_true rfl) dX10_book_125 ?_
            exact V_sub [0] rfl (wX10_book_j128  hF hf)
      · replace hf := it_f c5 hf
        refine v_bipush (pc := 54) (-2 : Int32) dX10_book_54 cb_m2 ?_
        refine v_aload_n (pc := 56) 0 dX10_book_56 rfl ?_
        refine gf_RX10_10 (pc := 57) 0 rfl rfl dX10_book_57 ?_
        refine gf_RX10_108 (pc := 60) 2 rfl rfl dX10_book_60 ?_
        refine v_isub (pc := 63) dX10_book_63 ?_
        have hf2 := Option.some.inj hf; subst hf2
        exact V_iret (pc := 64) hF dX10_book_64
    · replace hf := it_f c2 hf
      refine v_sipush (pc := 9) (-1000 : Int32) dX10_book_9 cs_m1000 ?_
      have hf2 := Option.some.inj hf; subst hf2
      exact V_iret (pc := 12) hF dX10_book_12
set_option maxRecDepth 20000 in
theorem kX10_told {G : Wc} {V0 : Ob} {V9 : Ob} {a : Int32} {r : Int32}  (hf : pX10_told V0 V9  a = some r) : Cn yX10_told cX10_told 2 (some .int) 1 60 G [.ref (wA G 0 0), .int a] [(0, V0), (9, V9)] [(0, V0), (9, V9)] (some (.int r)) := by
  refine V_method [(0, .ref (wA G 0 0)), (1, .int a)] (by decide) rfl (Nat.le_of_ble_eq_true rfl) rfl (fun Γ hF => ?_)
  unfold pX10_told at hf
  refine v_aload_n (pc := 0) 0 dX10_told_0 rfl ?_
  refine gf_RX10_61 (pc := 1) 0 rfl rfl dX10_told_1 ?_
  refine gf_RX10_328 (pc := 4) 1 rfl rfl dX10_told_4 ?_
  refine v_if_ne (pc := 7) 12 dX10_told_7 (by decide) (fun c1 => ?_) (fun c1 => ?_)
  · replace hf := it_f c1 hf
    refine v_iload_n (pc := 12) 1 dX10_told_12 rfl ?_
    by_cases c2 : a = (0 : Int32)
    · replace hf := it_t c2 hf
      refine v_tsIn (pc := 13) (0 : Int32) 44 dX10_told_13 c2 (by decide) (by decide) rfl (by decide) ?_
      refine v_aload_n (pc := 44) 0 dX10_told_44 rfl ?_
      refine gf_RX10_61 (pc := 45) 0 rfl rfl dX10_told_45 ?_
      refine gf_RX10_325 (pc := 48) 1 rfl rfl dX10_told_48 ?_
      have hf2 := Option.some.inj hf; subst hf2
      exact V_iret (pc := 51) hF dX10_told_51
    replace hf := it_f c2 hf
    by_cases c3 : a = (1 : Int32)
    · replace hf := it_t c3 hf
      refine v_tsIn (1 : Int32) 52 dX10_told_13 c3 (by decide) (by decide) rfl (by decide) ?_
      refine v_aload_n (pc := 52) 0 dX10_told_52 rfl ?_
      refine gf_RX10_61 (pc := 53) 0 rfl rfl dX10_told_53 ?_
      refine gf_RX10_322 (pc := 56) 1 rfl rfl dX10_told_56 ?_
      have hf2 := Option.some.inj hf; subst hf2
      exact V_iret (pc := 59) hF dX10_told_59
    replace hf := it_f c3 hf
    by_cases c4 : a = (2 : Int32)
    · replace hf := it_t c4 hf
      refine v_tsIn (2 : Int32) 60 dX10_told_13 c4 (by decide) (by decide) rfl (by decide) ?_
      refine v_aload_n (pc := 60) 0 dX10_told_60 rfl ?_
      refine gf_RX10_61 (pc := 61) 0 rfl rfl dX10_told_61 ?_
      refine gf_RX10_332 (pc := 64) 1 rfl rfl dX10_told_64 ?_
      have hf2 := Option.some.inj hf; subst hf2
      exact V_iret (pc := 67) hF dX10_told_67
    replace hf := it_f c4 hf
    by_cases c5 : a = (3 : Int32)
    · replace hf := it_t c5 hf
      refine v_tsIn (3 : Int32) 68 dX10_told_13 c5 (by decide) (by decide) rfl (by decide) ?_
      refine v_aload_n (pc := 68) 0 dX10_told_68 rfl ?_
      refine gf_RX10_61 (pc := 69) 0 rfl rfl dX10_told_69 ?_
      refine gf_RX10_335 (pc := 72) 1 rfl rfl dX10_told_72 ?_
      have hf2 := Option.some.inj hf; subst hf2
      exact V_iret (pc := 75) hF dX10_told_75
    replace hf := it_f c5 hf
    refine v_tsOut 76 dX10_told_13 4 (fun k hk => match k, hk with | 0, _ => c2 | 1, _ => c3 | 2, _ => c4 | 3, _ => c5 | k + 4, h => absurd h (by omega)) (by decide) (by decide) (by decide) ?_
    refine v_iconst (pc := 76) (-1 : Int32) dX10_told_76 ci_m1 ?_
    have hf2 := Option.some.inj hf; subst hf2
    exact V_iret (pc := 77) hF dX10_told_77
  · replace hf := it_t c1 hf
    refine v_iconst (pc := 10) (-1 : Int32) dX10_told_10 ci_m1 ?_
    have hf2 := Option.some.inj hf; subst hf2
    exact V_iret (pc := 11) hF dX10_told_11
set_option maxRecDepth 20000 in
theorem wX10_said_l21 {G : Wc} {Γ : Cx} {V0 : Ob} {V4 : Ob} {V2 : Ob} {V3 : Ob} {l1 : Int32} {r : Int32}  (hF : Fnl G Γ (some .int) (some (.int r)) (ov Γ.2.2.2 [(0, V0), (4, V4), (2, V2), (3, V3)])) : ∀ (n : Nat) {l2 : Int32} {l3 : Int32}, pX10_said_l21 V0 V4 V2 V3 l1 n l2 l3 = some r → V cX10_said RX10 6 179 4 G Γ [(0, V0), (4, V4), (2, V2), (3, V3)] 21 [(0, .ref (wA G 0 0)), (1, .int l1), (2, .int l2), (3, .int l3)] [] := by
  intro n
  induction n with
  | zero => intro l2 l3 hf; unfold pX10_said_l21 at hf; cases hf
  | succ n ih =>
    intro l2 l3 hf
    have hrec : ∀ {l2 : Int32} {l3 : Int32}, pX10_said_l21 V0 V4 V2 V3 l1 n l2 l3 = some r → V cX10_said RX10 6 179 4 G Γ [(0, V0), (4, V4), (2, V2), (3, V3)] 21 [(0, .ref (wA G 0 0)), (1, .int l1), (2, .int l2), (3, .int l3)] [] := fun h => ih h
    clear ih
    unfold pX10_said_l21 at hf
    refine v_iload_n (pc := 21) 3 dX10_said_21 rfl ?_
    refine v_aload_n (pc := 22) 0 dX10_said_22 rfl ?_
    refine gf_RX10_19 (pc := 23) 0 rfl rfl dX10_said_23 ?_
    refine gf_RX10_286 (pc := 26) 2 rfl rfl dX10_said_26 ?_
    refine v_icmp_ge (pc := 29) 67 dX10_said_29 (by decide) (fun c3 => ?_) (fun c3 => ?_)
    · replace hf := it_t c3 hf
      refine v_iload_n (pc := 67) 1 dX10_said_67 rfl ?_
      refine v_iconst (pc := 68) (-1 : Int32) dX10_said_68 ci_m1 ?_
      refine v_icmp_ne (pc := 69) 76 dX10_said_69 (by decide) (fun c4 => ?_) (fun c4 => ?_)
      · replace hf := it_f c4 hf
        refine v_iconst (pc := 76) (-1 : Int32) dX10_said_76 ci_m1 ?_
        have hf2 := Option.some.inj hf; subst hf2
        exact V_iret (pc := 77) hF dX10_said_77
      · replace hf := it_t c4 hf
        refine v_iload_n (pc := 72) 2 dX10_said_72 rfl ?_
        refine v_goto (pc := 73) 77 dX10_said_73 (by decide) ?_
        have hf2 := Option.some.inj hf; subst hf2
        exact V_iret (pc := 77) hF dX10_said_77
    · replace hf := it_f c3 hf
      refine v_aload_n (pc := 32) 0 dX10_said_32 rfl ?_
      refine gf_RX10_33 (pc := 33) 0 rfl rfl dX10_said_33 ?_
      refine v_aload_n (pc := 36) 0 dX10_said_36 rfl ?_
      refine gf_RX10_19 (pc := 37) 0 rfl rfl dX10_said_37 ?_
      refine v_aload_n (pc := 40) 0 dX10_said_40 rfl ?_
      refine gf_RX10_26 (pc := 41) 0 rfl rfl dX10_said_41 ?_
      refine v_iload_n (pc := 44) 3 dX10_said_44 rfl ?_
      replace hf := bd_some hf; obtain ⟨r5, h6, hf⟩ := hf
      refine V_call (pc := 45) (us1 := [_, _, _, _]) [1, 2, 3] 1 (kX5_isTrueOf (o := 4) (oa := 2) (ob := 3) rfl rfl rfl h6) rfl rfl rfl rfl rfl rfl (Nat.le_of_ble_eq_true rfl) rfl rfl rfl wm_RX10_345 md_X5_isTrueOf (Nat.le_of_ble_eq_true rfl) (Nat.le_of_ble_eq_true rfl) rfl rfl (Nat.le_of_ble_eq_true rfl) dX10_said_45 ?_
      refine v_if_eq (pc := 48) 61 dX10_said_48 (by decide) (fun c7 => ?_) (fun c7 => ?_)
      · replace hf := it_t c7 hf
        refine v_iinc (pc := 61) 3 (l3 + (1 : Int32)) [(3, _), (0, _), (1, _), (2, _)] dX10_said_61 rfl (congrArg (fun z => _ + z) ci_1) (Nat.le_of_ble_eq_true rfl) rfl ?_
        refine v_goto (pc := 64) 21 dX10_said_64 (by decide) ?_
        exact V_sub [1, 2, 3, 0] rfl (hrec hf)
      · replace hf := it_f c7 hf
        refine v_iload_n (pc := 51) 2 dX10_said_51 rfl ?_
        refine v_iload_n (pc := 52) 1 dX10_said_52 rfl ?_
        refine v_icmp_ne (pc := 53) 58 dX10_said_53 (by decide) (fun c8 => ?_) (fun c8 => ?_)
        · replace hf := it_f c8 hf
          refine v_iinc (pc := 58) 2 (l2 + (1 : Int32)) [(2, _), (0, _), (1, _), (3, _)] dX10_said_58 rfl (congrArg (fun z => _ + z) ci_1) (Nat.le_of_ble_eq_true rfl) rfl ?_
          refine v_iinc (pc := 61) 3 (l3 + (1 : Int32)) [(3, _), (2, _), (0, _), (1, _)] dX10_said_61 rfl (congrArg (fun z => _ + z) ci_1) (Nat.le_of_ble_eq_true rfl) rfl ?_
          refine v_goto (pc := 64) 21 dX10_said_64 (by decide) ?_
          exact V_sub [2, 3, 1, 0] rfl (hrec hf)
        · replace hf := it_t c8 hf
          refine v_iload_n (pc := 56) 3 dX10_said_56 rfl ?_
          have hf2 := Option.some.inj hf; subst hf2
          exact V_iret (pc := 57) hF dX10_said_57
set_option maxRecDepth 20000 in
theorem kX10_said {G : Wc} {V0 : Ob} {V4 : Ob} {V2 : Ob} {V3 : Ob} {a : Int32} {r : Int32}  (hf : pX10_said V0 V4 V2 V3  a = some r) : Cn yX10_said cX10_said 4 (some .int) 6 179 G [.ref (wA G 0 0), .int a] [(0, V0), (4, V4), (2, V2), (3, V3)] [(0, V0), (4, V4), (2, V2), (3, V3)] (some (.int r)) := by
  refine V_method [(0, .ref (wA G 0 0)), (1, .int a)] (by decide) rfl (Nat.le_of_ble_eq_true rfl) rfl (fun Γ hF => ?_)
  unfold pX10_said at hf
  refine v_aload_n (pc := 0) 0 dX10_said_0 rfl ?_
  refine gf_RX10_33 (pc := 1) 0 rfl rfl dX10_said_1 ?_
  refine gf_RX10_342 (pc := 4) 1 rfl rfl dX10_said_4 ?_
  refine v_if_eq (pc := 7) 15 dX10_said_7 (by decide) (fun c1 => ?_) (fun c1 => ?_)
  · replace hf := it_t c1 hf
    refine v_iconst (pc := 15) (-1 : Int32) dX10_said_15 ci_m1 ?_
    have hf2 := Option.some.inj hf; subst hf2
    exact V_iret (pc := 16) hF dX10_said_16
  · replace hf := it_f c1 hf
    refine v_iload_n (pc := 10) 1 dX10_said_10 rfl ?_
    refine v_iconst (pc := 11) (-1 : Int32) dX10_said_11 ci_m1 ?_
    refine v_icmp_ge (pc := 12) 17 dX10_said_12 (by decide) (fun c2 => ?_) (fun c2 => ?_)
    · replace hf := it_t c2 hf
      refine v_iconst (pc := 17) (0 : Int32) dX10_said_17 ci_0 ?_
      refine v_istore_n (pc := 18) [(2, _), (0, _), (1, _)] dX10_said_18 (Nat.le_of_ble_eq_true rfl) rfl ?_
      refine v_iconst (pc := 19) (0 : Int32) dX10_said_19 ci_0 ?_
      refine v_istore_n (pc := 20) [(3, _), (2, _), (0, _), (1, _)] dX10_said_20 (Nat.le_of_ble_eq_true rfl) rfl ?_
      exact V_sub [2, 3, 1, 0] rfl (wX10_said_l21  hF fu hf)
    · replace hf := it_f c2 hf
      refine v_iconst (pc := 15) (-1 : Int32) dX10_said_15 ci_m1 ?_
      have hf2 := Option.some.inj hf; subst hf2
      exact V_iret (pc := 16) hF dX10_said_16
set_option maxRecDepth 20000 in
theorem kX10_image {G : Wc} {V0 : Ob} {IM : (Nat → Ob)} {IQ : (Nat → Ob)} {IS : (Nat → Ob)} {IN : (Nat → Ob)} {V2 : Ob} {V3 : Ob} {V4 : Ob} {a : Int32} {r : Int32 × (Nat → Ob) × (Nat → Ob) × (Nat → Ob) × (Nat → Ob)}  (hf : pX10_image V0 IM IQ IS IN V2 V3 V4  a = some r) : Cn yX10_image cX10_image 2 (some .boolean) 3 125 G [.ref (wA G 0 0), .int a] [(0, V0), (6, IM 0), (7, IM 1), (22, IQ 0), (25, IQ 1), (23, IS 0), (26, IS 1), (24, IN 0), (27, IN 1), (2, V2), (3, V3), (4, V4)] [(0, V0), (6, r.2.1 0), (7, r.2.1 1), (22, r.2.2.1 0), (25, r.2.2.1 1), (23, r.2.2.2.1 0), (26, r.2.2.2.1 1), (24, r.2.2.2.2 0), (27, r.2.2.2.2 1), (2, V2), (3, V3), (4, V4)] (some (.int r.1)) := by
  refine V_method [(0, .ref (wA G 0 0)), (1, .int a)] (by decide) rfl (Nat.le_of_ble_eq_true rfl) rfl (fun Γ hF => ?_)
  unfold pX10_image at hf
  refine v_iload_n (pc := 0) 1 dX10_image_0 rfl ?_
  refine v_if_lt (pc := 1) 18 dX10_image_1 (by decide) (fun c1 => ?_) (fun c1 => ?_)
  · replace hf := it_t c1 hf
    refine v_iconst (pc := 18) (0 : Int32) dX10_image_18 ci_0 ?_
    have hf2 := Option.some.inj hf; subst hf2
    exact V_zret (pc := 19) hF rfl dX10_image_19
  · replace hf := it_f c1 hf
    refine v_iload_n (pc := 4) 1 dX10_image_4 rfl ?_
    refine v_iconst (pc := 5) (2 : Int32) dX10_image_5 ci_2 ?_
    refine v_icmp_ge (pc := 6) 18 dX10_image_6 (by decide) (fun c2 => ?_) (fun c2 => ?_)
    · replace hf := it_t c2 hf
      refine v_iconst (pc := 18) (0 : Int32) dX10_image_18 ci_0 ?_
      have hf2 := Option.some.inj hf; subst hf2
      exact V_zret (pc := 19) hF rfl dX10_image_19
    · replace hf := it_f c2 hf
      refine v_aload_n (pc := 9) 0 dX10_image_9 rfl ?_
      refine gf_RX10_46 (pc := 10) 0 rfl rfl dX10_image_10 ?_
      refine v_iload_n (pc := 13) 1 dX10_image_13 rfl ?_
      replace hf := gd_some hf; obtain ⟨g3, hf⟩ := hf
      refine V_mald (pc := 14) 0 1 rfl rfl (Nat.le_of_ble_eq_true rfl) rfl g3 dX10_image_14 ?_
      refine v_ifnonnullU (pc := 15) 20 dX10_image_15 (by decide) ?_
      refine v_aload_n (pc := 20) 0 dX10_image_20 rfl ?_
      refine gf_RX10_46 (pc := 21) 0 rfl rfl dX10_image_21 ?_
      refine v_iload_n (pc := 24) 1 dX10_image_24 rfl ?_
      replace hf := gd_some hf; obtain ⟨g4, hf⟩ := hf
      refine V_mald (pc := 25) 0 1 rfl rfl (Nat.le_of_ble_eq_true rfl) rfl g4 dX10_image_25 ?_
      refine v_aload_n (pc := 26) 0 dX10_image_26 rfl ?_
      refine gf_RX10_19 (pc := 27) 0 rfl rfl dX10_image_27 ?_
      refine v_aload_n (pc := 30) 0 dX10_image_30 rfl ?_
      refine gf_RX10_26 (pc := 31) 0 rfl rfl dX10_image_31 ?_
      refine v_aload_n (pc := 34) 0 dX10_image_34 rfl ?_
      refine gf_RX10_33 (pc := 35) 0 rfl rfl dX10_image_35 ?_
      obtain ⟨j5, e6, e6e⟩ : ∃ j : Nat, j < 2 ∧ a.toNatClampNeg = j := ⟨_, inB_lt g4, rfl⟩
      rcases (show j5 = 0 ∨ j5 = 1 by omega) with rfl | rfl
      · rw [e6e] at hf ⊢
        replace hf := bd_some hf; obtain ⟨r7, h8, hf⟩ := hf
        refine V_call (pc := 38) (us1 := [_, _, _, _, _, _, _, _, _, _, _, _]) [1, 9, 10, 11, 3, 5, 7] 1 (kX1_keep (o := 6) (oa := 2) (ob := 3) (oc := 4) rfl rfl rfl rfl rfl rfl rfl h8) rfl rfl rfl rfl rfl rfl (Nat.le_of_ble_eq_true rfl) rfl rfl rfl wm_RX10_349 md_X1_keep (Nat.le_of_ble_eq_true rfl) (Nat.le_of_ble_eq_true rfl) rfl rfl (Nat.le_of_ble_eq_true rfl) dX10_image_38 ?_
        refine v_iconst (pc := 41) (1 : Int32) dX10_image_41 ci_1 ?_
        have hf2 := Option.some.inj hf; subst hf2
        exact V_zret (pc := 42) hF rfl dX10_image_42
      · rw [e6e] at hf ⊢
        replace hf := bd_some hf; obtain ⟨r9, h10, hf⟩ := hf
        refine V_call (us1 := [_, _, _, _, _, _, _, _, _, _, _, _]) [2, 9, 10, 11, 4, 6, 8] 2 (kX1_keep (o := 7) (oa := 2) (ob := 3) (oc := 4) rfl rfl rfl rfl rfl rfl rfl h10) rfl rfl rfl rfl rfl rfl (Nat.le_of_ble_eq_true rfl) rfl rfl rfl wm_RX10_349 md_X1_keep (Nat.le_of_ble_eq_true rfl) (Nat.le_of_ble_eq_true rfl) rfl rfl (Nat.le_of_ble_eq_true rfl) dX10_image_38 ?_
        refine v_iconst (pc := 41) (1 : Int32) dX10_image_41 ci_1 ?_
        have hf2 := Option.some.inj hf; subst hf2
        exact V_zret (pc := 42) hF rfl dX10_image_42
set_option maxRecDepth 20000 in
theorem kX10_restore {G : Wc} {V0 : Ob} {IM : (Nat → Ob)} {IQ : (Nat → Ob)} {IS : (Nat → Ob)} {IN : (Nat → Ob)} {V2 : Ob} {V3 : Ob} {V4 : Ob} {V5 : Ob} {a : Int32} {r : Int32 × Ob × Ob × Ob × Ob}  (hf : pX10_restore V0 IM IQ IS IN V2 V3 V4 V5  a = some r) : Cn yX10_restore cX10_restore 2 (some .boolean) 3 125 G [.ref (wA G 0 0), .int a] [(0, V0), (6, IM 0), (7, IM 1), (22, IQ 0), (25, IQ 1), (23, IS 0), (26, IS 1), (24, IN 0), (27, IN 1), (2, V2), (3, V3), (4, V4), (5, V5)] [(0, V0), (6, IM 0), (7, IM 1), (22, IQ 0), (25, IQ 1), (23, IS 0), (26, IS 1), (24, IN 0), (27, IN 1), (2, r.2.1), (3, r.2.2.1), (4, r.2.2.2.1), (5, r.2.2.2.2)] (some (.int r.1)) := by
  refine V_method [(0, .ref (wA G 0 0)), (1, .int a)] (by decide) rfl (Nat.le_of_ble_eq_true rfl) rfl (fun Γ hF => ?_)
  unfold pX10_restore at hf
  refine v_iload_n (pc := 0) 1 dX10_restore_0 rfl ?_
  refine v_if_lt (pc := 1) 30 dX10_restore_1 (by decide) (fun c1 => ?_) (fun c1 => ?_)
  · replace hf := it_t c1 hf
    refine v_iconst (pc := 30) (0 : Int32) dX10_restore_30 ci_0 ?_
    have hf2 := Option.some.inj hf; subst hf2
    exact V_zret (pc := 31) hF rfl dX10_restore_31
  · replace hf := it_f c1 hf
    refine v_iload_n (pc := 4) 1 dX10_restore_4 rfl ?_
    refine v_iconst (pc := 5) (2 : Int32) dX10_restore_5 ci_2 ?_
    refine v_icmp_ge (pc := 6) 30 dX10_restore_6 (by decide) (fun c2 => ?_) (fun c2 => ?_)
    · replace hf := it_t c2 hf
      refine v_iconst (pc := 30) (0 : Int32) dX10_restore_30 ci_0 ?_
      have hf2 := Option.some.inj hf; subst hf2
      exact V_zret (pc := 31) hF rfl dX10_restore_31
    · replace hf := it_f c2 hf
      refine v_aload_n (pc := 9) 0 dX10_restore_9 rfl ?_
      refine gf_RX10_46 (pc := 10) 0 rfl rfl dX10_restore_10 ?_
      refine v_iload_n (pc := 13) 1 dX10_restore_13 rfl ?_
      replace hf := gd_some hf; obtain ⟨g3, hf⟩ := hf
      refine V_mald (pc := 14) 0 1 rfl rfl (Nat.le_of_ble_eq_true rfl) rfl g3 dX10_restore_14 ?_
      refine v_ifnullU (pc := 15) dX10_restore_15 ?_
      refine v_aload_n (pc := 18) 0 dX10_restore_18 rfl ?_
      refine gf_RX10_46 (pc := 19) 0 rfl rfl dX10_restore_19 ?_
      refine v_iload_n (pc := 22) 1 dX10_restore_22 rfl ?_
      replace hf := gd_some hf; obtain ⟨g4, hf⟩ := hf
      refine V_mald (pc := 23) 0 1 rfl rfl (Nat.le_of_ble_eq_true rfl) rfl g4 dX10_restore_23 ?_
      obtain ⟨j5, e6, e6e⟩ : ∃ j : Nat, j < 2 ∧ a.toNatClampNeg = j := ⟨_, inB_lt g4, rfl⟩
      rcases (show j5 = 0 ∨ j5 = 1 by omega) with rfl | rfl
      · rw [e6e] at hf ⊢
        refine gf_RX10_352 (pc := 24) 1 rfl rfl dX10_restore_24 ?_
        refine v_if_ne (pc := 27) 32 dX10_restore_27 (by decide) (fun c7 => ?_) (fun c7 => ?_)
        · replace hf := it_f c7 hf
          refine v_aload_n (pc := 32) 0 dX10_restore_32 rfl ?_
          refine gf_RX10_46 (pc := 33) 0 rfl rfl dX10_restore_33 ?_
          refine v_iload_n (pc := 36) 1 dX10_restore_36 rfl ?_
          replace hf := gd_some hf; obtain ⟨g8, hf⟩ := hf
          refine V_mald (pc := 37) 0 1 rfl rfl (Nat.le_of_ble_eq_true rfl) rfl g8 dX10_restore_37 ?_; rw [e6e]
          refine v_aload_n (pc := 38) 0 dX10_restore_38 rfl ?_
          refine gf_RX10_19 (pc := 39) 0 rfl rfl dX10_restore_39 ?_
          refine v_aload_n (pc := 42) 0 dX10_restore_42 rfl ?_
          refine gf_RX10_26 (pc := 43) 0 rfl rfl dX10_restore_43 ?_
          refine v_aload_n (pc := 46) 0 dX10_restore_46 rfl ?_
          refine gf_RX10_33 (pc := 47) 0 rfl rfl dX10_restore_47 ?_
          replace hf := bd_some hf; obtain ⟨r9, h10, hf⟩ := hf
          refine V_call (pc := 50) (us1 := [_, _, _, _, _, _, _, _, _, _, _, _, _]) [1, 9, 10, 11, 3, 5, 7] 1 (kX1_bringBack (o := 6) (oa := 2) (ob := 3) (oc := 4) rfl rfl rfl rfl rfl rfl rfl h10) rfl rfl rfl rfl rfl rfl (Nat.le_of_ble_eq_true rfl) rfl rfl rfl wm_RX10_355 md_X1_bringBack (Nat.le_of_ble_eq_true rfl) (Nat.le_of_ble_eq_true rfl) rfl rfl (Nat.le_of_ble_eq_true rfl) dX10_restore_50 ?_
          refine v_aload_n (pc := 53) 0 dX10_restore_53 rfl ?_
          refine gf_RX10_40 (pc := 54) 0 rfl rfl dX10_restore_54 ?_
          replace hf := bd_some hf; obtain ⟨r11, h12, hf⟩ := hf
          refine V_call (pc := 57) (us1 := [_, _, _, _, _, _, _, _, _, _, _, _, _]) [12] 12 (kX2_forget  h12) rfl rfl rfl rfl rfl rfl (Nat.le_of_ble_eq_true rfl) rfl rfl rfl wm_RX10_121 md_X2_forget (Nat.le_of_ble_eq_true rfl) (Nat.le_of_ble_eq_true rfl) rfl rfl (Nat.le_of_ble_eq_true rfl) dX10_restore_57 ?_
          refine v_iconst (pc := 60) (1 : Int32) dX10_restore_60 ci_1 ?_
          have hf2 := Option.some.inj hf; subst hf2
          exact V_zret (pc := 61) hF rfl dX10_restore_61
        · replace hf := it_t c7 hf
          refine v_iconst (pc := 30) (0 : Int32) dX10_restore_30 ci_0 ?_
          have hf2 := Option.some.inj hf; subst hf2
          exact V_zret (pc := 31) hF rfl dX10_restore_31
      · rw [e6e] at hf ⊢
        refine gf_RX10_352 2 rfl rfl dX10_restore_24 ?_
        refine v_if_ne (pc := 27) 32 dX10_restore_27 (by decide) (fun c13 => ?_) (fun c13 => ?_)
        · replace hf := it_f c13 hf
          refine v_aload_n (pc := 32) 0 dX10_restore_32 rfl ?_
          refine gf_RX10_46 (pc := 33) 0 rfl rfl dX10_restore_33 ?_
          refine v_iload_n (pc := 36) 1 dX10_restore_36 rfl ?_
          replace hf := gd_some hf; obtain ⟨g14, hf⟩ := hf
          refine V_mald (pc := 37) 0 1 rfl rfl (Nat.le_of_ble_eq_true rfl) rfl g14 dX10_restore_37 ?_; rw [e6e]
          refine v_aload_n (pc := 38) 0 dX10_restore_38 rfl ?_
          refine gf_RX10_19 (pc := 39) 0 rfl rfl dX10_restore_39 ?_
          refine v_aload_n (pc := 42) 0 dX10_restore_42 rfl ?_
          refine gf_RX10_26 (pc := 43) 0 rfl rfl dX10_restore_43 ?_
          refine v_aload_n (pc := 46) 0 dX10_restore_46 rfl ?_
          refine gf_RX10_33 (pc := 47) 0 rfl rfl dX10_restore_47 ?_
          replace hf := bd_some hf; obtain ⟨r15, h16, hf⟩ := hf
          refine V_call (pc := 50) (us1 := [_, _, _, _, _, _, _, _, _, _, _, _, _]) [2, 9, 10, 11, 4, 6, 8] 2 (kX1_bringBack (o := 7) (oa := 2) (ob := 3) (oc := 4) rfl rfl rfl rfl rfl rfl rfl h16) rfl rfl rfl rfl rfl rfl (Nat.le_of_ble_eq_true rfl) rfl rfl rfl wm_RX10_355 md_X1_bringBack (Nat.le_of_ble_eq_true rfl) (Nat.le_of_ble_eq_true rfl) rfl rfl (Nat.le_of_ble_eq_true rfl) dX10_restore_50 ?_
          refine v_aload_n (pc := 53) 0 dX10_restore_53 rfl ?_
          refine gf_RX10_40 (pc := 54) 0 rfl rfl dX10_restore_54 ?_
          replace hf := bd_some hf; obtain ⟨r17, h18, hf⟩ := hf
          refine V_call (pc := 57) (us1 := [_, _, _, _, _, _, _, _, _, _, _, _, _]) [12] 12 (kX2_forget  h18) rfl rfl rfl rfl rfl rfl (Nat.le_of_ble_eq_true rfl) rfl rfl rfl wm_RX10_121 md_X2_forget (Nat.le_of_ble_eq_true rfl) (Nat.le_of_ble_eq_true rfl) rfl rfl (Nat.le_of_ble_eq_true rfl) dX10_restore_57 ?_
          refine v_iconst (pc := 60) (1 : Int32) dX10_restore_60 ci_1 ?_
          have hf2 := Option.some.inj hf; subst hf2
          exact V_zret (pc := 61) hF rfl dX10_restore_61
        · replace hf := it_t c13 hf
          refine v_iconst (pc := 30) (0 : Int32) dX10_restore_30 ci_0 ?_
          have hf2 := Option.some.inj hf; subst hf2
          exact V_zret (pc := 31) hF rfl dX10_restore_31
set_option maxRecDepth 20000 in
theorem kX10_count {G : Wc} {V0 : Ob} {V1 : Ob} {V2 : Ob} {a : Int32} {r : Int32}  (hf : pX10_count V0 V1 V2  a = some r) : Cn yX10_count cX10_count 2 (some .int) 1 60 G [.ref (wA G 0 0), .int a] [(0, V0), (1, V1), (2, V2)] [(0, V0), (1, V1), (2, V2)] (some (.int r)) := by
  refine V_method [(0, .ref (wA G 0 0)), (1, .int a)] (by decide) rfl (Nat.le_of_ble_eq_true rfl) rfl (fun Γ hF => ?_)
  unfold pX10_count at hf
  refine v_iload_n (pc := 0) 1 dX10_count_0 rfl ?_
  by_cases c1 : a = (0 : Int32)
  · replace hf := it_t c1 hf
    refine v_tsIn (pc := 1) (0 : Int32) 40 dX10_count_1 c1 (by decide) (by decide) rfl (by decide) ?_
    refine v_aload_n (pc := 40) 0 dX10_count_40 rfl ?_
    refine gf_RX10_19 (pc := 41) 0 rfl rfl dX10_count_41 ?_
    refine gf_RX10_358 (pc := 44) 2 rfl rfl dX10_count_44 ?_
    have hf2 := Option.some.inj hf; subst hf2
    exact V_iret (pc := 47) hF dX10_count_47
  replace hf := it_f c1 hf
  by_cases c2 : a = (1 : Int32)
  · replace hf := it_t c2 hf
    refine v_tsIn (1 : Int32) 48 dX10_count_1 c2 (by decide) (by decide) rfl (by decide) ?_
    refine v_aload_n (pc := 48) 0 dX10_count_48 rfl ?_
    refine gf_RX10_19 (pc := 49) 0 rfl rfl dX10_count_49 ?_
    refine gf_RX10_286 (pc := 52) 2 rfl rfl dX10_count_52 ?_
    have hf2 := Option.some.inj hf; subst hf2
    exact V_iret (pc := 55) hF dX10_count_55
  replace hf := it_f c2 hf
  by_cases c3 : a = (2 : Int32)
  · replace hf := it_t c3 hf
    refine v_tsIn (2 : Int32) 56 dX10_count_1 c3 (by decide) (by decide) rfl (by decide) ?_
    refine v_aload_n (pc := 56) 0 dX10_count_56 rfl ?_
    refine gf_RX10_19 (pc := 57) 0 rfl rfl dX10_count_57 ?_
    refine gf_RX10_361 (pc := 60) 2 rfl rfl dX10_count_60 ?_
    have hf2 := Option.some.inj hf; subst hf2
    exact V_iret (pc := 63) hF dX10_count_63
  replace hf := it_f c3 hf
  by_cases c4 : a = (3 : Int32)
  · replace hf := it_t c4 hf
    refine v_tsIn (3 : Int32) 64 dX10_count_1 c4 (by decide) (by decide) rfl (by decide) ?_
    refine v_aload_n (pc := 64) 0 dX10_count_64 rfl ?_
    refine gf_RX10_19 (pc := 65) 0 rfl rfl dX10_count_65 ?_
    refine gf_RX10_364 (pc := 68) 2 rfl rfl dX10_count_68 ?_
    have hf2 := Option.some.inj hf; subst hf2
    exact V_iret (pc := 71) hF dX10_count_71
  replace hf := it_f c4 hf
  by_cases c5 : a = (4 : Int32)
  · replace hf := it_t c5 hf
    refine v_tsIn (4 : Int32) 72 dX10_count_1 c5 (by decide) (by decide) rfl (by decide) ?_
    refine v_aload_n (pc := 72) 0 dX10_count_72 rfl ?_
    refine gf_RX10_19 (pc := 73) 0 rfl rfl dX10_count_73 ?_
    refine gf_RX10_367 (pc := 76) 2 rfl rfl dX10_count_76 ?_
    have hf2 := Option.some.inj hf; subst hf2
    exact V_iret (pc := 79) hF dX10_count_79
  replace hf := it_f c5 hf
  by_cases c6 : a = (5 : Int32)
  · replace hf := it_t c6 hf
    refine v_tsIn (5 : Int32) 80 dX10_count_1 c6 (by decide) (by decide) rfl (by decide) ?_
    refine v_aload_n (pc := 80) 0 dX10_count_80 rfl ?_
    refine gf_RX10_10 (pc := 81) 0 rfl rfl dX10_count_81 ?_
    refine gf_RX10_94 (pc := 84) 1 rfl rfl dX10_count_84 ?_
    have hf2 := Option.some.inj hf; subst hf2
    exact V_iret (pc := 87) hF dX10_count_87
  replace hf := it_f c6 hf
  refine v_tsOut 88 dX10_count_1 6 (fun k hk => match k, hk with | 0, _ => c1 | 1, _ => c2 | 2, _ => c3 | 3, _ => c4 | 4, _ => c5 | 5, _ => c6 | k + 6, h => absurd h (by omega)) (by decide) (by decide) (by decide) ?_
  refine v_iconst (pc := 88) (-1 : Int32) dX10_count_88 ci_m1 ?_
  have hf2 := Option.some.inj hf; subst hf2
  exact V_iret (pc := 89) hF dX10_count_89
