set_option maxRecDepth 20000 in
theorem wX5_readCondF_j98 {G : Wc} {Γ : Cx} {o oa ob : Nat} {dn : Nat} {rc ro : Ob → Ob → Ob → Int32 → Option (Int32 × Ob × Ob)} {S : Ob} {Sa : Ob} {Sb : Ob} {l3 : Int32} {l4 : Int32} {l5 : Int32} {l6 : Int32} {l7 : Int32} {s0 : Int32} {r : Int32 × Int32 × Ob × Ob} (hk0 : kd o = 5) (hk1 : kd oa = 8) (hk2 : kd ob = 4) (hrc : ∀ {S Sa Sb : Ob} {c : Int32} {r : Int32 × Ob × Ob}, rc S Sa Sb c = some r → Cn yX5_readCond cX5_readCond 8 (some .boolean) (5 + dn) (300 + 40 * dn) G [.ref (wA G o 0), .ref (wA G oa 0), .ref (wA G ob 0), .int c] [(o, S), (oa, Sa), (ob, Sb)] [(o, r.2.1), (oa, r.2.2), (ob, Sb)] (some (.int r.1))) (hro : ∀ {S Sa Sb : Ob} {c : Int32} {r : Int32 × Ob × Ob}, ro S Sa Sb c = some r → Cn yX5_readOne cX5_readOne 7 (some .boolean) (5 + dn) (300 + 40 * dn) G [.ref (wA G o 0), .ref (wA G oa 0), .ref (wA G ob 0), .int c] [(o, S), (oa, Sa), (ob, Sb)] [(o, r.2.1), (oa, r.2.2), (ob, Sb)] (some (.int r.1))) {rec : Int32 → Int32 → Int32 → Ob → Ob → Option (Int32 × Int32 × Ob × Ob)} (hrec : ∀ {l4 : Int32} {l5 : Int32} {l6 : Int32} {S : Ob} {Sa : Ob}, rec l4 l5 l6 S Sa = some r → V cX5_readCond RX5 (5 + (dn + 1)) (300 + 40 * (dn + 1)) 8 G Γ [(o, S), (oa, Sa), (ob, Sb)] 15 [(0, .ref (wA G o 0)), (1, .ref (wA G oa 0)), (2, .ref (wA G ob 0)), (3, .int l3), (4, .int l4), (5, .int l5), (6, .int l6)] []) (hx : V cX5_readCond RX5 (5 + (dn + 1)) (300 + 40 * (dn + 1)) 8 G Γ [(o, r.2.2.1), (oa, r.2.2.2), (ob, Sb)] 133 [(0, .ref (wA G o 0)), (4, .int r.1), (5, .int r.2.1)] []) (hf : pX5_readCondF_j98 rc ro rec S Sa Sb l3 l4 l5 l6 l7 s0 = some r) : V cX5_readCond RX5 (5 + (dn + 1)) (300 + 40 * (dn + 1)) 8 G Γ [(o, S), (oa, Sa), (ob, Sb)] 98 [(0, .ref (wA G o 0)), (1, .ref (wA G oa 0)), (2, .ref (wA G ob 0)), (3, .int l3), (4, .int l4), (5, .int l5), (6, .int l6), (7, .int l7)] [.int s0] := by
  unfold pX5_readCondF_j98 at hf
  refine v_istore (pc := 98) [(5, _), (0, _), (1, _), (2, _), (3, _), (4, _), (6, _), (7, _)] dX5_readCond_98 (Nat.le_of_ble_eq_true rfl) rfl ?_
  refine v_aload_n (pc := 100) 2 dX5_readCond_100 rfl ?_
  replace hf := bd_some hf; obtain ⟨r11, h12, hf⟩ := hf
  refine V_call (pc := 101) (us1 := [_, _, _]) [1] 1 (kX8_advance (o := oa) hk1 h12) rfl rfl rfl rfl rfl hk1 (Nat.le_of_ble_eq_true rfl) rfl rfl rfl wm_RX5_74 md_X8_advance (by omega) (by omega) rfl rfl (Nat.le_of_ble_eq_true rfl) dX5_readCond_101 ?_
  refine v_aload_n (pc := 104) 1 dX5_readCond_104 rfl ?_
  refine v_aload_n (pc := 105) 2 dX5_readCond_105 rfl ?_
  refine v_aload_n (pc := 106) 3 dX5_readCond_106 rfl ?_
  refine v_iload_n (pc := 107) 4 dX5_readCond_107 rfl ?_
  replace hf := bd_some hf; obtain ⟨r13, h14, hf⟩ := hf
  refine V_call (pc := 108) (us1 := [_, _, _]) [0, 1, 2] 0 (hro h14) rfl rfl rfl rfl rfl hk0 (Nat.le_of_ble_eq_true rfl) rfl rfl rfl wm_RX5_57 md_X5_readOne (by omega) (by omega) rfl rfl (Nat.le_of_ble_eq_true rfl) dX5_readCond_108 ?_
  refine v_istore (pc := 111) [(4, _), (5, _), (0, _), (1, _), (2, _), (3, _), (6, _), (7, _)] dX5_readCond_111 (Nat.le_of_ble_eq_true rfl) rfl ?_
  refine v_iload (pc := 113) 7 dX5_readCond_113 rfl ?_
  refine v_if_eq (pc := 115) 127 dX5_readCond_115 (by decide) (fun c15 => ?_) (fun c15 => ?_)
  · replace hf := it_t c15 hf
    refine v_iinc (pc := 127) 6 (l6 + (1 : Int32)) [(6, _), (4, _), (5, _), (0, _), (1, _), (2, _), (3, _), (7, _)] dX5_readCond_127 rfl (congrArg (fun z => _ + z) ci_1) (Nat.le_of_ble_eq_true rfl) rfl ?_
    refine v_goto (pc := 130) 15 dX5_readCond_130 (by decide) ?_
    exact V_sub [3, 4, 5, 6, 1, 2, 0] rfl (hrec hf)
  · replace hf := it_f c15 hf
    refine v_aload_n (pc := 118) 2 dX5_readCond_118 rfl ?_
    refine V_gete (pc := 119) 12 "AND" (by decide) rfl wf_RX5_64 dX5_readCond_119 ?_
    refine v_iconst (pc := 122) (0 : Int32) dX5_readCond_122 ci_0 ?_
    refine v_iconst (pc := 123) (0 : Int32) dX5_readCond_123 ci_0 ?_
    replace hf := bd_some hf; obtain ⟨r16, h17, hf⟩ := hf
    refine V_call (pc := 124) (us1 := [_, _, _]) [0] 0 (kX5_addStep (o := o) hk0 h17) rfl rfl rfl rfl rfl hk0 (Nat.le_of_ble_eq_true rfl) rfl rfl rfl wm_RX5_70 md_X5_addStep (by omega) (by omega) rfl rfl (Nat.le_of_ble_eq_true rfl) dX5_readCond_124 ?_
    refine v_iinc (pc := 127) 6 (l6 + (1 : Int32)) [(6, _), (4, _), (5, _), (0, _), (1, _), (2, _), (3, _), (7, _)] dX5_readCond_127 rfl (congrArg (fun z => _ + z) ci_1) (Nat.le_of_ble_eq_true rfl) rfl ?_
    refine v_goto (pc := 130) 15 dX5_readCond_130 (by decide) ?_
    exact V_sub [3, 4, 5, 6, 1, 2, 0] rfl (hrec hf)
set_option maxRecDepth 20000 in
theorem wX5_readCondF_j93 {G : Wc} {Γ : Cx} {o oa ob : Nat} {dn : Nat} {rc ro : Ob → Ob → Ob → Int32 → Option (Int32 × Ob × Ob)} {S : Ob} {Sa : Ob} {Sb : Ob} {l3 : Int32} {l4 : Int32} {l5 : Int32} {l6 : Int32} {l7 : Int32} {r : Int32 × Int32 × Ob × Ob} (hk0 : kd o = 5) (hk1 : kd oa = 8) (hk2 : kd ob = 4) (hrc : ∀ {S Sa Sb : Ob} {c : Int32} {r : Int32 × Ob × Ob}, rc S Sa Sb c = some r → Cn yX5_readCond cX5_readCond 8 (some .boolean) (5 + dn) (300 + 40 * dn) G [.ref (wA G o 0), .ref (wA G oa 0), .ref (wA G ob 0), .int c] [(o, S), (oa, Sa), (ob, Sb)] [(o, r.2.1), (oa, r.2.2), (ob, Sb)] (some (.int r.1))) (hro : ∀ {S Sa Sb : Ob} {c : Int32} {r : Int32 × Ob × Ob}, ro S Sa Sb c = some r → Cn yX5_readOne cX5_readOne 7 (some .boolean) (5 + dn) (300 + 40 * dn) G [.ref (wA G o 0), .ref (wA G oa 0), .ref (wA G ob 0), .int c] [(o, S), (oa, Sa), (ob, Sb)] [(o, r.2.1), (oa, r.2.2), (ob, Sb)] (some (.int r.1))) {rec : Int32 → Int32 → Int32 → Ob → Ob → Option (Int32 × Int32 × Ob × Ob)} (hrec : ∀ {l4 : Int32} {l5 : Int32} {l6 : Int32} {S : Ob} {Sa : Ob}, rec l4 l5 l6 S Sa = some r → V cX5_readCond RX5 (5 + (dn + 1)) (300 + 40 * (dn + 1)) 8 G Γ [(o, S), (oa, Sa), (ob, Sb)] 15 [(0, .ref (wA G o 0)), (1, .ref (wA G oa 0)), (2, .ref (wA G ob 0)), (3, .int l3), (4, .int l4), (5, .int l5), (6, .int l6)] []) (hx : V cX5_readCond RX5 (5 + (dn + 1)) (300 + 40 * (dn + 1)) 8 G Γ [(o, r.2.2.1), (oa, r.2.2.2), (ob, Sb)] 133 [(0, .ref (wA G o 0)), (4, .int r.1), (5, .int r.2.1)] []) (hf : pX5_readCondF_j93 rc ro rec S Sa Sb l3 l4 l5 l6 l7 = some r) : V cX5_readCond RX5 (5 + (dn + 1)) (300 + 40 * (dn + 1)) 8 G Γ [(o, S), (oa, Sa), (ob, Sb)] 93 [(0, .ref (wA G o 0)), (1, .ref (wA G oa 0)), (2, .ref (wA G ob 0)), (3, .int l3), (4, .int l4), (5, .int l5), (6, .int l6), (7, .int l7)] [] := by
  unfold pX5_readCondF_j93 at hf
  refine v_iconst (pc := 93) (1 : Int32) dX5_readCond_93 ci_1 ?_
  refine v_goto (pc := 94) 98 dX5_readCond_94 (by decide) ?_
  exact V_sub [0, 1, 2, 3, 4, 5, 6, 7] rfl (wX5_readCondF_j98 hk0 hk1 hk2 hrc hro hrec hx hf)
set_option maxRecDepth 20000 in
theorem wX5_readCondF_j83 {G : Wc} {Γ : Cx} {o oa ob : Nat} {dn : Nat} {rc ro : Ob → Ob → Ob → Int32 → Option (Int32 × Ob × Ob)} {S : Ob} {Sa : Ob} {Sb : Ob} {l3 : Int32} {l4 : Int32} {l5 : Int32} {l6 : Int32} {l7 : Int32} {r : Int32 × Int32 × Ob × Ob} (hk0 : kd o = 5) (hk1 : kd oa = 8) (hk2 : kd ob = 4) (hrc : ∀ {S Sa Sb : Ob} {c : Int32} {r : Int32 × Ob × Ob}, rc S Sa Sb c = some r → Cn yX5_readCond cX5_readCond 8 (some .boolean) (5 + dn) (300 + 40 * dn) G [.ref (wA G o 0), .ref (wA G oa 0), .ref (wA G ob 0), .int c] [(o, S), (oa, Sa), (ob, Sb)] [(o, r.2.1), (oa, r.2.2), (ob, Sb)] (some (.int r.1))) (hro : ∀ {S Sa Sb : Ob} {c : Int32} {r : Int32 × Ob × Ob}, ro S Sa Sb c = some r → Cn yX5_readOne cX5_readOne 7 (some .boolean) (5 + dn) (300 + 40 * dn) G [.ref (wA G o 0), .ref (wA G oa 0), .ref (wA G ob 0), .int c] [(o, S), (oa, Sa), (ob, Sb)] [(o, r.2.1), (oa, r.2.2), (ob, Sb)] (some (.int r.1))) {rec : Int32 → Int32 → Int32 → Ob → Ob → Option (Int32 × Int32 × Ob × Ob)} (hrec : ∀ {l4 : Int32} {l5 : Int32} {l6 : Int32} {S : Ob} {Sa : Ob}, rec l4 l5 l6 S Sa = some r → V cX5_readCond RX5 (5 + (dn + 1)) (300 + 40 * (dn + 1)) 8 G Γ [(o, S), (oa, Sa), (ob, Sb)] 15 [(0, .ref (wA G o 0)), (1, .ref (wA G oa 0)), (2, .ref (wA G ob 0)), (3, .int l3), (4, .int l4), (5, .int l5), (6, .int l6)] []) (hx : V cX5_readCond RX5 (5 + (dn + 1)) (300 + 40 * (dn + 1)) 8 G Γ [(o, r.2.2.1), (oa, r.2.2.2), (ob, Sb)] 133 [(0, .ref (wA G o 0)), (4, .int r.1), (5, .int r.2.1)] []) (hf : pX5_readCondF_j83 rc ro rec S Sa Sb l3 l4 l5 l6 l7 = some r) : V cX5_readCond RX5 (5 + (dn + 1)) (300 + 40 * (dn + 1)) 8 G Γ [(o, S), (oa, Sa), (ob, Sb)] 83 [(0, .ref (wA G o 0)), (1, .ref (wA G oa 0)), (2, .ref (wA G ob 0)), (3, .int l3), (4, .int l4), (5, .int l5), (6, .int l6), (7, .int l7)] [] := by
  unfold pX5_readCondF_j83 at hf
  refine v_iload (pc := 83) 5 dX5_readCond_83 rfl ?_
  refine v_if_ne (pc := 85) 93 dX5_readCond_85 (by decide) (fun c10 => ?_) (fun c10 => ?_)
  · replace hf := it_f c10 hf
    exact V_sub [0, 1, 2, 3, 4, 5, 6, 7] rfl (wX5_readCondF_j93 hk0 hk1 hk2 hrc hro hrec hx hf)
  · replace hf := it_t c10 hf
    refine v_iload (pc := 88) 7 dX5_readCond_88 rfl ?_
    refine v_if_ne (pc := 90) 97 dX5_readCond_90 (by decide) (fun c18 => ?_) (fun c18 => ?_)
    · replace hf := it_f c18 hf
      refine v_iconst (pc := 97) (0 : Int32) dX5_readCond_97 ci_0 ?_
      exact V_sub [0, 1, 2, 3, 4, 5, 6, 7] rfl (wX5_readCondF_j98 hk0 hk1 hk2 hrc hro hrec hx hf)
    · replace hf := it_t c18 hf
      exact V_sub [0, 1, 2, 3, 4, 5, 6, 7] rfl (wX5_readCondF_j93 hk0 hk1 hk2 hrc hro hrec hx hf)
set_option maxRecDepth 20000 in
theorem wX5_readCondF_j62 {G : Wc} {Γ : Cx} {o oa ob : Nat} {dn : Nat} {rc ro : Ob → Ob → Ob → Int32 → Option (Int32 × Ob × Ob)} {S : Ob} {Sa : Ob} {Sb : Ob} {l3 : Int32} {l4 : Int32} {l5 : Int32} {l6 : Int32} {s0 : Int32} {r : Int32 × Int32 × Ob × Ob} (hk0 : kd o = 5) (hk1 : kd oa = 8) (hk2 : kd ob = 4) (hrc : ∀ {S Sa Sb : Ob} {c : Int32} {r : Int32 × Ob × Ob}, rc S Sa Sb c = some r → Cn yX5_readCond cX5_readCond 8 (some .boolean) (5 + dn) (300 + 40 * dn) G [.ref (wA G o 0), .ref (wA G oa 0), .ref (wA G ob 0), .int c] [(o, S), (oa, Sa), (ob, Sb)] [(o, r.2.1), (oa, r.2.2), (ob, Sb)] (some (.int r.1))) (hro : ∀ {S Sa Sb : Ob} {c : Int32} {r : Int32 × Ob × Ob}, ro S Sa Sb c = some r → Cn yX5_readOne cX5_readOne 7 (some .boolean) (5 + dn) (300 + 40 * dn) G [.ref (wA G o 0), .ref (wA G oa 0), .ref (wA G ob 0), .int c] [(o, S), (oa, Sa), (ob, Sb)] [(o, r.2.1), (oa, r.2.2), (ob, Sb)] (some (.int r.1))) {rec : Int32 → Int32 → Int32 → Ob → Ob → Option (Int32 × Int32 × Ob × Ob)} (hrec : ∀ {l4 : Int32} {l5 : Int32} {l6 : Int32} {S : Ob} {Sa : Ob}, rec l4 l5 l6 S Sa = some r → V cX5_readCond RX5 (5 + (dn + 1)) (300 + 40 * (dn + 1)) 8 G Γ [(o, S), (oa, Sa), (ob, Sb)] 15 [(0, .ref (wA G o 0)), (1, .ref (wA G oa 0)), (2, .ref (wA G ob 0)), (3, .int l3), (4, .int l4), (5, .int l5), (6, .int l6)] []) (hx : V cX5_readCond RX5 (5 + (dn + 1)) (300 + 40 * (dn + 1)) 8 G Γ [(o, r.2.2.1), (oa, r.2.2.2), (ob, Sb)] 133 [(0, .ref (wA G o 0)), (4, .int r.1), (5, .int r.2.1)] []) (hf : pX5_readCondF_j62 rc ro rec S Sa Sb l3 l4 l5 l6 s0 = some r) : V cX5_readCond RX5 (5 + (dn + 1)) (300 + 40 * (dn + 1)) 8 G Γ [(o, S), (oa, Sa), (ob, Sb)] 62 [(0, .ref (wA G o 0)), (1, .ref (wA G oa 0)), (2, .ref (wA G ob 0)), (3, .int l3), (4, .int l4), (5, .int l5), (6, .int l6)] [.int s0] := by
  unfold pX5_readCondF_j62 at hf
  refine v_istore (pc := 62) [(7, _), (0, _), (1, _), (2, _), (3, _), (4, _), (5, _), (6, _)] dX5_readCond_62 (Nat.le_of_ble_eq_true rfl) rfl ?_
  refine v_iload (pc := 64) 0 dX5_readCond_64 rfl ?_
  refine v_if_ne (pc := 66) 83 dX5_readCond_66 (by decide) (fun c9 => ?_) (fun c9 => ?_)
  · replace hf := it_f c9 hf
    exact V_sub [1, 2, 3, 4, 5, 6, 7, 0] rfl (wX5_readCondF_j83 hk0 hk1 hk2 hrc hro hrec hx hf)
  · replace hf := it_t c9 hf
    refine v_iload (pc := 69) 6 dX5_readCond_69 rfl ?_
    refine v_if_eq (pc := 71) 83 dX5_readCond_71 (by decide) (fun c19 => ?_) (fun c19 => ?_)
    · replace hf := it_t c19 hf
      exact V_sub [1, 2, 3, 4, 5, 6, 7, 0] rfl (wX5_readCondF_j83 hk0 hk1 hk2 hrc hro hrec hx hf)
    · replace hf := it_f c19 hf
      refine v_aload_n (pc := 74) 1 dX5_readCond_74 rfl ?_
      refine V_gete (pc := 75) 11 "OR" (by decide) rfl wf_RX5_67 dX5_readCond_75 ?_
      refine v_iconst (pc := 78) (0 : Int32) dX5_readCond_78 ci_0 ?_
      refine v_iconst (pc := 79) (0 : Int32) dX5_readCond_79 ci_0 ?_
      replace hf := bd_some hf; obtain ⟨r20, h21, hf⟩ := hf
      refine V_call (pc := 80) (us1 := [_, _, _]) [0] 0 (kX5_addStep (o := o) hk0 h21) rfl rfl rfl rfl rfl hk0 (Nat.le_of_ble_eq_true rfl) rfl rfl rfl wm_RX5_70 md_X5_addStep (by omega) (by omega) rfl rfl (Nat.le_of_ble_eq_true rfl) dX5_readCond_80 ?_
      exact V_sub [1, 2, 3, 4, 5, 6, 7, 0] rfl (wX5_readCondF_j83 hk0 hk1 hk2 hrc hro hrec hx hf)
set_option maxRecDepth 20000 in
theorem wX5_readCondF_j47 {G : Wc} {Γ : Cx} {o oa ob : Nat} {dn : Nat} {rc ro : Ob → Ob → Ob → Int32 → Option (Int32 × Ob × Ob)} {S : Ob} {Sa : Ob} {Sb : Ob} {l3 : Int32} {l4 : Int32} {l5 : Int32} {l6 : Int32} {r : Int32 × Int32 × Ob × Ob} (hk0 : kd o = 5) (hk1 : kd oa = 8) (hk2 : kd ob = 4) (hrc : ∀ {S Sa Sb : Ob} {c : Int32} {r : Int32 × Ob × Ob}, rc S Sa Sb c = some r → Cn yX5_readCond cX5_readCond 8 (some .boolean) (5 + dn) (300 + 40 * dn) G [.ref (wA G o 0), .ref (wA G oa 0), .ref (wA G ob 0), .int c] [(o, S), (oa, Sa), (ob, Sb)] [(o, r.2.1), (oa, r.2.2), (ob, Sb)] (some (.int r.1))) (hro : ∀ {S Sa Sb : Ob} {c : Int32} {r : Int32 × Ob × Ob}, ro S Sa Sb c = some r → Cn yX5_readOne cX5_readOne 7 (some .boolean) (5 + dn) (300 + 40 * dn) G [.ref (wA G o 0), .ref (wA G oa 0), .ref (wA G ob 0), .int c] [(o, S), (oa, Sa), (ob, Sb)] [(o, r.2.1), (oa, r.2.2), (ob, Sb)] (some (.int r.1))) {rec : Int32 → Int32 → Int32 → Ob → Ob → Option (Int32 × Int32 × Ob × Ob)} (hrec : ∀ {l4 : Int32} {l5 : Int32} {l6 : Int32} {S : Ob} {Sa : Ob}, rec l4 l5 l6 S Sa = some r → V cX5_readCond RX5 (5 + (dn + 1)) (300 + 40 * (dn + 1)) 8 G Γ [(o, S), (oa, Sa), (ob, Sb)] 15 [(0, .ref (wA G o 0)), (1, .ref (wA G oa 0)), (2, .ref (wA G ob 0)), (3, .int l3), (4, .int l4), (5, .int l5), (6, .int l6)] []) (hx : V cX5_readCond RX5 (5 + (dn + 1)) (300 + 40 * (dn + 1)) 8 G Γ [(o, r.2.2.1), (oa, r.2.2.2), (ob, Sb)] 133 [(0, .ref (wA G o 0)), (4, .int r.1), (5, .int r.2.1)] []) (hf : pX5_readCondF_j47 rc ro rec S Sa Sb l3 l4 l5 l6 = some r) : V cX5_readCond RX5 (5 + (dn + 1)) (300 + 40 * (dn + 1)) 8 G Γ [(o, S), (oa, Sa), (ob, Sb)] 47 [(0, .ref (wA G o 0)), (1, .ref (wA G oa 0)), (2, .ref (wA G ob 0)), (3, .int l3), (4, .int l4), (5, .int l5), (6, .int l6)] [] := by
  unfold pX5_readCondF_j47 at hf
  refine v_aload_n (pc := 47) 1 dX5_readCond_47 rfl ?_
  refine gf_RX5_60 (pc := 48) 1 rfl hk1 dX5_readCond_48 ?_
  refine V_gete (pc := 51) 12 "AND" (by decide) rfl wf_RX5_64 dX5_readCond_51 ?_
  replace hf := gd_some hf; obtain ⟨g7, hf⟩ := hf
  refine v_acmp_ne (pc := 54) g7 rfl 61 dX5_readCond_54 (by decide) (fun c8 => ?_) (fun c8 => ?_)
  · replace hf := it_f c8 hf
    refine v_iconst (pc := 61) (0 : Int32) dX5_readCond_61 ci_0 ?_
    exact V_sub [0, 1, 2, 3, 4, 5, 6] rfl (wX5_readCondF_j62 hk0 hk1 hk2 hrc hro hrec hx hf)
  · replace hf := it_t c8 hf
    refine v_iconst (pc := 57) (1 : Int32) dX5_readCond_57 ci_1 ?_
    refine v_goto (pc := 58) 62 dX5_readCond_58 (by decide) ?_
    exact V_sub [0, 1, 2, 3, 4, 5, 6] rfl (wX5_readCondF_j62 hk0 hk1 hk2 hrc hro hrec hx hf)
set_option maxRecDepth 20000 in
theorem wX5_readCondF_l15 {G : Wc} {Γ : Cx} {o oa ob : Nat} {dn : Nat} {rc ro : Ob → Ob → Ob → Int32 → Option (Int32 × Ob × Ob)} {Sb : Ob} {l3 : Int32} (hk0 : kd o = 5) (hk1 : kd oa = 8) (hk2 : kd ob = 4) (hrc : ∀ {S Sa Sb : Ob} {c : Int32} {r : Int32 × Ob × Ob}, rc S Sa Sb c = some r → Cn yX5_readCond cX5_readCond 8 (some .boolean) (5 + dn) (300 + 40 * dn) G [.ref (wA G o 0), .ref (wA G oa 0), .ref (wA G ob 0), .int c] [(o, S), (oa, Sa), (ob, Sb)] [(o, r.2.1), (oa, r.2.2), (ob, Sb)] (some (.int r.1))) (hro : ∀ {S Sa Sb : Ob} {c : Int32} {r : Int32 × Ob × Ob}, ro S Sa Sb c = some r → Cn yX5_readOne cX5_readOne 7 (some .boolean) (5 + dn) (300 + 40 * dn) G [.ref (wA G o 0), .ref (wA G oa 0), .ref (wA G ob 0), .int c] [(o, S), (oa, Sa), (ob, Sb)] [(o, r.2.1), (oa, r.2.2), (ob, Sb)] (some (.int r.1))) : ∀ (n : Nat) {l4 : Int32} {l5 : Int32} {l6 : Int32} {S : Ob} {Sa : Ob} {r : Int32 × Int32 × Ob × Ob}, pX5_readCondF_l15  rc ro Sb l3 n l4 l5 l6 S Sa = some r → V cX5_readCond RX5 (5 + (dn + 1)) (300 + 40 * (dn + 1)) 8 G Γ [(o, r.2.2.1), (oa, r.2.2.2), (ob, Sb)] 133 [(0, .ref (wA G o 0)), (4, .int r.1), (5, .int r.2.1)] [] → V cX5_readCond RX5 (5 + (dn + 1)) (300 + 40 * (dn + 1)) 8 G Γ [(o, S), (oa, Sa), (ob, Sb)] 15 [(0, .ref (wA G o 0)), (1, .ref (wA G oa 0)), (2, .ref (wA G ob 0)), (3, .int l3), (4, .int l4), (5, .int l5), (6, .int l6)] [] := by
  intro n
  induction n with
  | zero => intro l4 l5 l6 S Sa r hf hx; unfold pX5_readCondF_l15 at hf; cases hf
  | succ n ih =>
    intro l4 l5 l6 S Sa r hf hx
    have hrec : ∀ {l4 : Int32} {l5 : Int32} {l6 : Int32} {S : Ob} {Sa : Ob}, pX5_readCondF_l15  rc ro Sb l3 n l4 l5 l6 S Sa = some r → V cX5_readCond RX5 (5 + (dn + 1)) (300 + 40 * (dn + 1)) 8 G Γ [(o, S), (oa, Sa), (ob, Sb)] 15 [(0, .ref (wA G o 0)), (1, .ref (wA G oa 0)), (2, .ref (wA G ob 0)), (3, .int l3), (4, .int l4), (5, .int l5), (6, .int l6)] [] := fun h => ih h hx
    clear ih
    unfold pX5_readCondF_l15 at hf
    refine v_iload (pc := 15) 6 dX5_readCond_15 rfl ?_
    refine v_bipush (pc := 17) (20 : Int32) dX5_readCond_17 cb_20 ?_
    refine v_icmp_ge (pc := 19) 133 dX5_readCond_19 (by decide) (fun c3 => ?_) (fun c3 => ?_)
    · replace hf := it_t c3 hf
      have hf2 := Option.some.inj hf; subst hf2
      exact V_sub [0, 4, 5] rfl hx
    · replace hf := it_f c3 hf
      refine v_iload (pc := 22) 4 dX5_readCond_22 rfl ?_
      refine v_if_eq (pc := 24) 133 dX5_readCond_24 (by decide) (fun c4 => ?_) (fun c4 => ?_)
      · replace hf := it_t c4 hf
        have hf2 := Option.some.inj hf; subst hf2
        exact V_sub [0, 4, 5] rfl hx
      · replace hf := it_f c4 hf
        refine v_aload_n (pc := 27) 1 dX5_readCond_27 rfl ?_
        refine gf_RX5_60 (pc := 28) 1 rfl hk1 dX5_readCond_28 ?_
        refine V_gete (pc := 31) 12 "AND" (by decide) rfl wf_RX5_64 dX5_readCond_31 ?_
        replace hf := gd_some hf; obtain ⟨g5, hf⟩ := hf
        refine v_acmp_eq (pc := 34) g5 rfl 47 dX5_readCond_34 (by decide) (fun c6 => ?_) (fun c6 => ?_)
        · replace hf := it_t c6 hf
          exact V_sub [0, 1, 2, 3, 4, 5, 6] rfl (wX5_readCondF_j47 hk0 hk1 hk2 hrc hro hrec hx hf)
        · replace hf := it_f c6 hf
          refine v_aload_n (pc := 37) 1 dX5_readCond_37 rfl ?_
          refine gf_RX5_60 (pc := 38) 1 rfl hk1 dX5_readCond_38 ?_
          refine V_gete (pc := 41) 11 "OR" (by decide) rfl wf_RX5_67 dX5_readCond_41 ?_
          replace hf := gd_some hf; obtain ⟨g22, hf⟩ := hf
          refine v_acmp_ne (pc := 44) g22 rfl 133 dX5_readCond_44 (by decide) (fun c23 => ?_) (fun c23 => ?_)
          · replace hf := it_f c23 hf
            have hf2 := Option.some.inj hf; subst hf2
            exact V_sub [0, 4, 5] rfl hx
          · replace hf := it_t c23 hf
            exact V_sub [0, 1, 2, 3, 4, 5, 6] rfl (wX5_readCondF_j47 hk0 hk1 hk2 hrc hro hrec hx hf)
set_option maxRecDepth 20000 in
theorem kX5_readCondF {G : Wc} {o oa ob : Nat} {dn : Nat} {rc ro : Ob → Ob → Ob → Int32 → Option (Int32 × Ob × Ob)} {S : Ob} {Sa : Ob} {Sb : Ob} {c : Int32} {r : Int32 × Ob × Ob} (hk0 : kd o = 5) (hk1 : kd oa = 8) (hk2 : kd ob = 4) (hrc : ∀ {S Sa Sb : Ob} {c : Int32} {r : Int32 × Ob × Ob}, rc S Sa Sb c = some r → Cn yX5_readCond cX5_readCond 8 (some .boolean) (5 + dn) (300 + 40 * dn) G [.ref (wA G o 0), .ref (wA G oa 0), .ref (wA G ob 0), .int c] [(o, S), (oa, Sa), (ob, Sb)] [(o, r.2.1), (oa, r.2.2), (ob, Sb)] (some (.int r.1))) (hro : ∀ {S Sa Sb : Ob} {c : Int32} {r : Int32 × Ob × Ob}, ro S Sa Sb c = some r → Cn yX5_readOne cX5_readOne 7 (some .boolean) (5 + dn) (300 + 40 * dn) G [.ref (wA G o 0), .ref (wA G oa 0), .ref (wA G ob 0), .int c] [(o, S), (oa, Sa), (ob, Sb)] [(o, r.2.1), (oa, r.2.2), (ob, Sb)] (some (.int r.1))) (hf : pX5_readCondF rc ro S Sa Sb  c = some r) : Cn yX5_readCond cX5_readCond 8 (some .boolean) (5 + (dn + 1)) (300 + 40 * (dn + 1)) G [.ref (wA G o 0), .ref (wA G oa 0), .ref (wA G ob 0), .int c] [(o, S), (oa, Sa), (ob, Sb)] [(o, r.2.1), (oa, r.2.2), (ob, Sb)] (some (.int r.1)) := by
  refine V_method [(0, .ref (wA G o 0)), (1, .ref (wA G oa 0)), (2, .ref (wA G ob 0)), (3, .int c)] (by decide) rfl (Nat.le_of_ble_eq_true rfl) rfl (fun Γ hF => ?_)
  unfold pX5_readCondF at hf
  refine v_aload_n (pc := 0) 0 dX5_readCond_0 rfl ?_
  refine v_aload_n (pc := 1) 1 dX5_readCond_1 rfl ?_
  refine v_aload_n (pc := 2) 2 dX5_readCond_2 rfl ?_
  refine v_iload_n (pc := 3) 3 dX5_readCond_3 rfl ?_
  replace hf := bd_some hf; obtain ⟨r1, h2, hf⟩ := hf
  refine V_call (pc := 4) (us1 := [_, _, _]) [0, 1, 2] 0 (hro h2) rfl rfl rfl rfl rfl hk0 (Nat.le_of_ble_eq_true rfl) rfl rfl rfl wm_RX5_57 md_X5_readOne (by omega) (by omega) rfl rfl (Nat.le_of_ble_eq_true rfl) dX5_readCond_4 ?_
  refine v_istore (pc := 7) [(4, _), (0, _), (1, _), (2, _), (3, _)] dX5_readCond_7 (Nat.le_of_ble_eq_true rfl) rfl ?_
  refine v_iconst (pc := 9) (0 : Int32) dX5_readCond_9 ci_0 ?_
  refine v_istore (pc := 10) [(5, _), (4, _), (0, _), (1, _), (2, _), (3, _)] dX5_readCond_10 (Nat.le_of_ble_eq_true rfl) rfl ?_
  refine v_iconst (pc := 12) (0 : Int32) dX5_readCond_12 ci_0 ?_
  refine v_istore (pc := 13) [(6, _), (5, _), (4, _), (0, _), (1, _), (2, _), (3, _)] dX5_readCond_13 (Nat.le_of_ble_eq_true rfl) rfl ?_
  replace hf := bd_some hf; obtain ⟨r24, h25, hf⟩ := hf
  refine V_sub [3, 4, 5, 6, 2, 1, 0] rfl (wX5_readCondF_l15 hk0 hk1 hk2 hrc hro fu h25 ?_)
  refine v_iload (pc := 133) 2 dX5_readCond_133 rfl ?_
  refine v_if_eq (pc := 135) 147 dX5_readCond_135 (by decide) (fun c26 => ?_) (fun c26 => ?_)
  · replace hf := it_t c26 hf
    refine v_iload (pc := 147) 1 dX5_readCond_147 rfl ?_
    replace hf := gd_some hf; obtain ⟨g27, hf⟩ := hf
    have hf2 := Option.some.inj hf; subst hf2
    exact V_zret (pc := 149) hF g27 dX5_readCond_149
  · replace hf := it_f c26 hf
    refine v_aload_n (pc := 138) 0 dX5_readCond_138 rfl ?_
    refine V_gete (pc := 139) 11 "OR" (by decide) rfl wf_RX5_67 dX5_readCond_139 ?_
    refine v_iconst (pc := 142) (0 : Int32) dX5_readCond_142 ci_0 ?_
    refine v_iconst (pc := 143) (0 : Int32) dX5_readCond_143 ci_0 ?_
    replace hf := bd_some hf; obtain ⟨r28, h29, hf⟩ := hf
    refine V_call (pc := 144) (us1 := [_, _, _]) [0] 0 (kX5_addStep (o := o) hk0 h29) rfl rfl rfl rfl rfl hk0 (Nat.le_of_ble_eq_true rfl) rfl rfl rfl wm_RX5_70 md_X5_addStep (by omega) (by omega) rfl rfl (Nat.le_of_ble_eq_true rfl) dX5_readCond_144 ?_
    refine v_iload (pc := 147) 1 dX5_readCond_147 rfl ?_
    replace hf := gd_some hf; obtain ⟨g30, hf⟩ := hf
    have hf2 := Option.some.inj hf; subst hf2
    exact V_zret (pc := 149) hF g30 dX5_readCond_149
set_option maxRecDepth 20000 in
theorem wX5_readOneF_j40 {G : Wc} {Γ : Cx} {o oa ob : Nat} {dn : Nat} {rc ro : Ob → Ob → Ob → Int32 → Option (Int32 × Ob × Ob)} {S : Ob} {Sa : Ob} {Sb : Ob} {r : Int32 × Ob × Ob} (hk0 : kd o = 5) (hk1 : kd oa = 8) (hk2 : kd ob = 4) (hrc : ∀ {S Sa Sb : Ob} {c : Int32} {r : Int32 × Ob × Ob}, rc S Sa Sb c = some r → Cn yX5_readCond cX5_readCond 8 (some .boolean) (5 + dn) (300 + 40 * dn) G [.ref (wA G o 0), .ref (wA G oa 0), .ref (wA G ob 0), .int c] [(o, S), (oa, Sa), (ob, Sb)] [(o, r.2.1), (oa, r.2.2), (ob, Sb)] (some (.int r.1))) (hro : ∀ {S Sa Sb : Ob} {c : Int32} {r : Int32 × Ob × Ob}, ro S Sa Sb c = some r → Cn yX5_readOne cX5_readOne 7 (some .boolean) (5 + dn) (300 + 40 * dn) G [.ref (wA G o 0), .ref (wA G oa 0), .ref (wA G ob 0), .int c] [(o, S), (oa, Sa), (ob, Sb)] [(o, r.2.1), (oa, r.2.2), (ob, Sb)] (some (.int r.1))) (hF : Fnl G Γ (some .boolean) (some (.int r.1)) (ov Γ.2.2.2 [(o, r.2.1), (oa, r.2.2), (ob, Sb)])) (hf : pX5_readOneF_j40 rc ro S Sa Sb = some r) : V cX5_readOne RX5 (5 + (dn + 1)) (300 + 40 * (dn + 1)) 7 G Γ [(o, S), (oa, Sa), (ob, Sb)] 40 [(1, .ref (wA G oa 0))] [] := by
  unfold pX5_readOneF_j40 at hf
  refine v_aload_n (pc := 40) 0 dX5_readOne_40 rfl ?_
  refine v_iconst (pc := 41) (4 : Int32) dX5_readOne_41 ci_4 ?_
  replace hf := bd_some hf; obtain ⟨r3, h4, hf⟩ := hf
  refine V_call (pc := 42) (us1 := [_, _, _]) [1] 1 (kX8_refuse (o := oa) hk1 h4) rfl rfl rfl rfl rfl hk1 (Nat.le_of_ble_eq_true rfl) rfl rfl rfl wm_RX5_53 md_X8_refuse (by omega) (by omega) rfl rfl (Nat.le_of_ble_eq_true rfl) dX5_readOne_42 ?_
  replace hf := gd_some hf; obtain ⟨g5, hf⟩ := hf
  have hf2 := Option.some.inj hf; subst hf2
  exact V_zret (pc := 45) hF g5 dX5_readOne_45
set_option maxRecDepth 20000 in
theorem wX5_readOneF_j70 {G : Wc} {Γ : Cx} {o oa ob : Nat} {dn : Nat} {rc ro : Ob → Ob → Ob → Int32 → Option (Int32 × Ob × Ob)} {S : Ob} {Sa : Ob} {Sb : Ob} {l3 : Int32} {s0 : Int32} {r : Int32 × Ob × Ob} (hk0 : kd o = 5) (hk1 : kd oa = 8) (hk2 : kd ob = 4) (hrc : ∀ {S Sa Sb : Ob} {c : Int32} {r : Int32 × Ob × Ob}, rc S Sa Sb c = some r → Cn yX5_readCond cX5_readCond 8 (some .boolean) (5 + dn) (300 + 40 * dn) G [.ref (wA G o 0), .ref (wA G oa 0), .ref (wA G ob 0), .int c] [(o, S), (oa, Sa), (ob, Sb)] [(o, r.2.1), (oa, r.2.2), (ob, Sb)] (some (.int r.1))) (hro : ∀ {S Sa Sb : Ob} {c : Int32} {r : Int32 × Ob × Ob}, ro S Sa Sb c = some r → Cn yX5_readOne cX5_readOne 7 (some .boolean) (5 + dn) (300 + 40 * dn) G [.ref (wA G o 0), .ref (wA G oa 0), .ref (wA G ob 0), .int c] [(o, S), (oa, Sa), (ob, Sb)] [(o, r.2.1), (oa, r.2.2), (ob, Sb)] (some (.int r.1))) (hF : Fnl G Γ (some .boolean) (some (.int r.1)) (ov Γ.2.2.2 [(o, r.2.1), (oa, r.2.2), (ob, Sb)])) (hf : pX5_readOneF_j70 rc ro S Sa Sb l3 s0 = some r) : V cX5_readOne RX5 (5 + (dn + 1)) (300 + 40 * (dn + 1)) 7 G Γ [(o, S), (oa, Sa), (ob, Sb)] 70 [(0, .ref (wA G o 0)), (1, .ref (wA G oa 0)), (2, .ref (wA G ob 0)), (3, .int l3)] [.int s0] := by
  unfold pX5_readOneF_j70 at hf
  refine v_istore (pc := 70) [(4, _), (0, _), (1, _), (2, _), (3, _)] dX5_readOne_70 (Nat.le_of_ble_eq_true rfl) rfl ?_
  refine v_aload_n (pc := 72) 2 dX5_readOne_72 rfl ?_
  refine gf_RX5_60 (pc := 73) 1 rfl hk1 dX5_readOne_73 ?_
  refine v_estore (pc := 76) [(5, _), (4, _), (0, _), (1, _), (2, _), (3, _)] dX5_readOne_76 (Nat.le_of_ble_eq_true rfl) rfl ?_
  refine v_aload_n (pc := 78) 3 dX5_readOne_78 rfl ?_
  replace hf := bd_some hf; obtain ⟨r8, h9, hf⟩ := hf
  refine V_call (pc := 79) (us1 := [_, _, _]) [1] 1 (kX8_advance (o := oa) hk1 h9) rfl rfl rfl rfl rfl hk1 (Nat.le_of_ble_eq_true rfl) rfl rfl rfl wm_RX5_74 md_X8_advance (by omega) (by omega) rfl rfl (Nat.le_of_ble_eq_true rfl) dX5_readOne_79 ?_
  refine v_iload (pc := 82) 1 dX5_readOne_82 rfl ?_
  refine v_if_eq (pc := 84) 114 dX5_readOne_84 (by decide) (fun c10 => ?_) (fun c10 => ?_)
  · replace hf := it_t c10 hf
    refine v_eload (pc := 114) 0 dX5_readOne_114 rfl ?_
    refine V_gete (pc := 116) 13 "NOT" (by decide) rfl wf_RX5_84 dX5_readOne_116 ?_
    replace hf := gd_some hf; obtain ⟨g11, hf⟩ := hf
    refine v_acmp_ne (pc := 119) g11 rfl 145 dX5_readOne_119 (by decide) (fun c12 => ?_) (fun c12 => ?_)
    · replace hf := it_f c12 hf
      refine v_aload_n (pc := 145) 2 dX5_readOne_145 rfl ?_
      refine v_aload_n (pc := 146) 3 dX5_readOne_146 rfl ?_
      refine v_aload_n (pc := 147) 4 dX5_readOne_147 rfl ?_
      refine v_eload (pc := 148) 0 dX5_readOne_148 rfl ?_
      replace hf := bd_some hf; obtain ⟨r13, h14, hf⟩ := hf
      refine V_call (pc := 150) (us1 := [_, _, _]) [0, 1, 2] 0 (kX5_readPlain (o := o) (oa := oa) (ob := ob) hk0 hk1 hk2 h14) rfl rfl rfl rfl rfl hk0 (Nat.le_of_ble_eq_true rfl) rfl rfl rfl wm_RX5_87 md_X5_readPlain (by omega) (by omega) rfl rfl (Nat.le_of_ble_eq_true rfl) dX5_readOne_150 ?_
      replace hf := gd_some hf; obtain ⟨g15, hf⟩ := hf
      have hf2 := Option.some.inj hf; subst hf2
      exact V_zret (pc := 153) hF g15 dX5_readOne_153
    · replace hf := it_t c12 hf
      refine v_aload_n (pc := 122) 2 dX5_readOne_122 rfl ?_
      refine v_aload_n (pc := 123) 3 dX5_readOne_123 rfl ?_
      refine v_aload_n (pc := 124) 4 dX5_readOne_124 rfl ?_
      refine v_iload_n (pc := 125) 5 dX5_readOne_125 rfl ?_
      refine v_iconst (pc := 126) (1 : Int32) dX5_readOne_126 ci_1 ?_
      refine v_iadd (pc := 127) dX5_readOne_127 ?_
      replace hf := bd_some hf; obtain ⟨r16, h17, hf⟩ := hf
      refine V_call (pc := 128) (us1 := [_, _, _]) [0, 1, 2] 0 (hro h17) rfl rfl rfl rfl rfl hk0 (Nat.le_of_ble_eq_true rfl) rfl rfl rfl wm_RX5_57 md_X5_readOne (by omega) (by omega) rfl rfl (Nat.le_of_ble_eq_true rfl) dX5_readOne_128 ?_
      refine v_istore (pc := 131) [(6, .int r16.1), (5, va_re (wE G) (oW Sa 8)), (4, .int s0), (0, .ref (wA G o 0)), (1, .ref (wA G oa 0)), (2, .ref (wA G ob 0)), (3, .int l3)] dX5_readOne_131 (Nat.le_of_ble_eq_true rfl) (by generalize (oW Sa 8) = z9; cases z9 <;> rfl) ?_
      refine v_aload_n (pc := 133) 3 dX5_readOne_133 rfl ?_
      refine V_gete (pc := 134) 13 "NOT" (by decide) rfl wf_RX5_84 dX5_readOne_134 ?_
      refine v_iconst (pc := 137) (0 : Int32) dX5_readOne_137 ci_0 ?_
      refine v_iconst (pc := 138) (0 : Int32) dX5_readOne_138 ci_0 ?_
      replace hf := bd_some hf; obtain ⟨r18, h19, hf⟩ := hf
      refine V_call (pc := 139) (us1 := [_, _, _]) [0] 0 (kX5_addStep (o := o) hk0 h19) rfl rfl rfl rfl rfl hk0 (Nat.le_of_ble_eq_true rfl) rfl rfl rfl wm_RX5_70 md_X5_addStep (by omega) (by omega) rfl rfl (Nat.le_of_ble_eq_true rfl) dX5_readOne_139 ?_
      refine v_iload (pc := 142) 0 dX5_readOne_142 rfl ?_
      replace hf := gd_some hf; obtain ⟨g20, hf⟩ := hf
      have hf2 := Option.some.inj hf; subst hf2
      exact V_zret (pc := 144) hF g20 dX5_readOne_144
  · replace hf := it_f c10 hf
    refine v_aload_n (pc := 87) 2 dX5_readOne_87 rfl ?_
    refine v_aload_n (pc := 88) 3 dX5_readOne_88 rfl ?_
    refine v_aload_n (pc := 89) 4 dX5_readOne_89 rfl ?_
    refine v_iload_n (pc := 90) 5 dX5_readOne_90 rfl ?_
    refine v_iconst (pc := 91) (1 : Int32) dX5_readOne_91 ci_1 ?_
    refine v_iadd (pc := 92) dX5_readOne_92 ?_
    replace hf := bd_some hf; obtain ⟨r21, h22, hf⟩ := hf
    refine V_call (pc := 93) (us1 := [_, _, _]) [0, 1, 2] 0 (hrc h22) rfl rfl rfl rfl rfl hk0 (Nat.le_of_ble_eq_true rfl) rfl rfl rfl wm_RX5_46 md_X5_readCond (by omega) (by omega) rfl rfl (Nat.le_of_ble_eq_true rfl) dX5_readOne_93 ?_
    refine v_if_eq (pc := 96) 112 dX5_readOne_96 (by decide) (fun c23 => ?_) (fun c23 => ?_)
    · replace hf := it_t c23 hf
      refine v_iconst (pc := 112) (0 : Int32) dX5_readOne_112 ci_0 ?_
      have hf2 := Option.some.inj hf; subst hf2
      exact V_zret (pc := 113) hF rfl dX5_readOne_113
    · replace hf := it_f c23 hf
      refine v_aload_n (pc := 99) 3 dX5_readOne_99 rfl ?_
      refine v_bipush (pc := 100) (41 : Int32) dX5_readOne_100 cb_41 ?_
      replace hf := bd_some hf; obtain ⟨r24, h25, hf⟩ := hf
      refine V_call (pc := 102) (us1 := [_, _, _]) [1] 1 (kX8_takeSign (o := oa) hk1 h25) rfl rfl rfl rfl rfl hk1 (Nat.le_of_ble_eq_true rfl) rfl rfl rfl wm_RX5_81 md_X8_takeSign (by omega) (by omega) rfl rfl (Nat.le_of_ble_eq_true rfl) dX5_readOne_102 ?_
      refine v_if_eq (pc := 105) 112 dX5_readOne_105 (by decide) (fun c26 => ?_) (fun c26 => ?_)
      · replace hf := it_t c26 hf
        refine v_iconst (pc := 112) (0 : Int32) dX5_readOne_112 ci_0 ?_
        have hf2 := Option.some.inj hf; subst hf2
        exact V_zret (pc := 113) hF rfl dX5_readOne_113
      · replace hf := it_f c26 hf
        refine v_iconst (pc := 108) (1 : Int32) dX5_readOne_108 ci_1 ?_
        refine v_goto (pc := 109) 113 dX5_readOne_109 (by decide) ?_
        have hf2 := Option.some.inj hf; subst hf2
        exact V_zret (pc := 113) hF rfl dX5_readOne_113
set_option maxRecDepth 20000 in
theorem wX5_readOneF_j25 {G : Wc} {Γ : Cx} {o oa ob : Nat} {dn : Nat} {rc ro : Ob → Ob → Ob → Int32 → Option (Int32 × Ob × Ob)} {S : Ob} {Sa : Ob} {Sb : Ob} {l3 : Int32} {r : Int32 × Ob × Ob} (hk0 : kd o = 5) (hk1 : kd oa = 8) (hk2 : kd ob = 4) (hrc : ∀ {S Sa Sb : Ob} {c : Int32} {r : Int32 × Ob × Ob}, rc S Sa Sb c = some r → Cn yX5_readCond cX5_readCond 8 (some .boolean) (5 + dn) (300 + 40 * dn) G [.ref (wA G o 0), .ref (wA G oa 0), .ref (wA G ob 0), .int c] [(o, S), (oa, Sa), (ob, Sb)] [(o, r.2.1), (oa, r.2.2), (ob, Sb)] (some (.int r.1))) (hro : ∀ {S Sa Sb : Ob} {c : Int32} {r : Int32 × Ob × Ob}, ro S Sa Sb c = some r → Cn yX5_readOne cX5_readOne 7 (some .boolean) (5 + dn) (300 + 40 * dn) G [.ref (wA G o 0), .ref (wA G oa 0), .ref (wA G ob 0), .int c] [(o, S), (oa, Sa), (ob, Sb)] [(o, r.2.1), (oa, r.2.2), (ob, Sb)] (some (.int r.1))) (hF : Fnl G Γ (some .boolean) (some (.int r.1)) (ov Γ.2.2.2 [(o, r.2.1), (oa, r.2.2), (ob, Sb)])) (hf : pX5_readOneF_j25 rc ro S Sa Sb l3 = some r) : V cX5_readOne RX5 (5 + (dn + 1)) (300 + 40 * (dn + 1)) 7 G Γ [(o, S), (oa, Sa), (ob, Sb)] 25 [(0, .ref (wA G o 0)), (1, .ref (wA G oa 0)), (2, .ref (wA G ob 0)), (3, .int l3)] [] := by
  unfold pX5_readOneF_j25 at hf
  refine v_aload_n (pc := 25) 0 dX5_readOne_25 rfl ?_
  refine gf_RX5_28 (pc := 26) 0 rfl hk0 dX5_readOne_26 ?_
  refine v_bipush (pc := 29) (20 : Int32) dX5_readOne_29 cb_20 ?_
  refine v_icmp_ge (pc := 31) 40 dX5_readOne_31 (by decide) (fun c2 => ?_) (fun c2 => ?_)
  · replace hf := it_t c2 hf
    exact V_sub [1] rfl (wX5_readOneF_j40 hk0 hk1 hk2 hrc hro hF hf)
  · replace hf := it_f c2 hf
    refine v_iload_n (pc := 34) 3 dX5_readOne_34 rfl ?_
    refine v_bipush (pc := 35) (8 : Int32) dX5_readOne_35 cb_8 ?_
    refine v_icmp_le (pc := 37) 46 dX5_readOne_37 (by decide) (fun c6 => ?_) (fun c6 => ?_)
    · replace hf := it_t c6 hf
      refine v_aload_n (pc := 46) 0 dX5_readOne_46 rfl ?_
      refine v_dup (pc := 47) dX5_readOne_47 rfl ?_
      refine gf_RX5_28 (pc := 48) 0 rfl hk0 dX5_readOne_48 ?_
      refine v_iconst (pc := 51) (1 : Int32) dX5_readOne_51 ci_1 ?_
      refine v_iadd (pc := 52) dX5_readOne_52 ?_
      refine pf_RX5_28 (pc := 53) [_, _, _] 0 rfl hk0 rfl dX5_readOne_53 ?_
      refine v_aload_n (pc := 56) 1 dX5_readOne_56 rfl ?_
      refine gf_RX5_50 (pc := 57) 1 rfl hk1 dX5_readOne_57 ?_
      refine v_bipush (pc := 60) (40 : Int32) dX5_readOne_60 cb_40 ?_
      refine v_icmp_ne (pc := 62) 69 dX5_readOne_62 (by decide) (fun c7 => ?_) (fun c7 => ?_)
      · replace hf := it_f c7 hf
        refine v_iconst (pc := 69) (0 : Int32) dX5_readOne_69 ci_0 ?_
        exact V_sub [0, 1, 2, 3] rfl (wX5_readOneF_j70 hk0 hk1 hk2 hrc hro hF hf)
      · replace hf := it_t c7 hf
        refine v_iconst (pc := 65) (1 : Int32) dX5_readOne_65 ci_1 ?_
        refine v_goto (pc := 66) 70 dX5_readOne_66 (by decide) ?_
        exact V_sub [0, 1, 2, 3] rfl (wX5_readOneF_j70 hk0 hk1 hk2 hrc hro hF hf)
    · replace hf := it_f c6 hf
      exact V_sub [1] rfl (wX5_readOneF_j40 hk0 hk1 hk2 hrc hro hF hf)
set_option maxRecDepth 20000 in
theorem kX5_readOneF {G : Wc} {o oa ob : Nat} {dn : Nat} {rc ro : Ob → Ob → Ob → Int32 → Option (Int32 × Ob × Ob)} {S : Ob} {Sa : Ob} {Sb : Ob} {c : Int32} {r : Int32 × Ob × Ob} (hk0 : kd o = 5) (hk1 : kd oa = 8) (hk2 : kd ob = 4) (hrc : ∀ {S Sa Sb : Ob} {c : Int32} {r : Int32 × Ob × Ob}, rc S Sa Sb c = some r → Cn yX5_readCond cX5_readCond 8 (some .boolean) (5 + dn) (300 + 40 * dn) G [.ref (wA G o 0), .ref (wA G oa 0), .ref (wA G ob 0), .int c] [(o, S), (oa, Sa), (ob, Sb)] [(o, r.2.1), (oa, r.2.2), (ob, Sb)] (some (.int r.1))) (hro : ∀ {S Sa Sb : Ob} {c : Int32} {r : Int32 × Ob × Ob}, ro S Sa Sb c = some r → Cn yX5_readOne cX5_readOne 7 (some .boolean) (5 + dn) (300 + 40 * dn) G [.ref (wA G o 0), .ref (wA G oa 0), .ref (wA G ob 0), .int c] [(o, S), (oa, Sa), (ob, Sb)] [(o, r.2.1), (oa, r.2.2), (ob, Sb)] (some (.int r.1))) (hf : pX5_readOneF rc ro S Sa Sb  c = some r) : Cn yX5_readOne cX5_readOne 7 (some .boolean) (5 + (dn + 1)) (300 + 40 * (dn + 1)) G [.ref (wA G o 0), .ref (wA G oa 0), .ref (wA G ob 0), .int c] [(o, S), (oa, Sa), (ob, Sb)] [(o, r.2.1), (oa, r.2.2), (ob, Sb)] (some (.int r.1)) := by
  refine V_method [(0, .ref (wA G o 0)), (1, .ref (wA G oa 0)), (2, .ref (wA G ob 0)), (3, .int c)] (by decide) rfl (Nat.le_of_ble_eq_true rfl) rfl (fun Γ hF => ?_)
  unfold pX5_readOneF at hf
  refine v_aload_n (pc := 0) 1 dX5_readOne_0 rfl ?_
  refine gf_RX5_50 (pc := 1) 1 rfl hk1 dX5_readOne_1 ?_
  refine v_bipush (pc := 4) (40 : Int32) dX5_readOne_4 cb_40 ?_
  refine v_icmp_eq (pc := 6) 25 dX5_readOne_6 (by decide) (fun c1 => ?_) (fun c1 => ?_)
  · replace hf := it_t c1 hf
    exact V_sub [0, 1, 2, 3] rfl (wX5_readOneF_j25 hk0 hk1 hk2 hrc hro hF hf)
  · replace hf := it_f c1 hf
    refine v_aload_n (pc := 9) 1 dX5_readOne_9 rfl ?_
    refine gf_RX5_60 (pc := 10) 1 rfl hk1 dX5_readOne_10 ?_
    replace hf := bd_some hf; obtain ⟨r27, h28, hf⟩ := hf
    refine V_callS (pc := 13) (us1 := [_, _, _]) [] (kX5_beginsOne  h28) rfl rfl rfl rfl wm_RX5_77 md_X5_beginsOne (by omega) (by omega) rfl rfl (Nat.le_of_ble_eq_true rfl) dX5_readOne_13 ?_
    refine v_if_ne (pc := 16) 25 dX5_readOne_16 (by decide) (fun c29 => ?_) (fun c29 => ?_)
    · replace hf := it_f c29 hf
      exact V_sub [0, 1, 2, 3] rfl (wX5_readOneF_j25 hk0 hk1 hk2 hrc hro hF hf)
    · replace hf := it_t c29 hf
      refine v_aload_n (pc := 19) 1 dX5_readOne_19 rfl ?_
      refine v_iconst (pc := 20) (1 : Int32) dX5_readOne_20 ci_1 ?_
      replace hf := bd_some hf; obtain ⟨r30, h31, hf⟩ := hf
      refine V_call (pc := 21) (us1 := [_, _, _]) [1] 1 (kX8_refuse (o := oa) hk1 h31) rfl rfl rfl rfl rfl hk1 (Nat.le_of_ble_eq_true rfl) rfl rfl rfl wm_RX5_53 md_X8_refuse (by omega) (by omega) rfl rfl (Nat.le_of_ble_eq_true rfl) dX5_readOne_21 ?_
      replace hf := gd_some hf; obtain ⟨g32, hf⟩ := hf
      have hf2 := Option.some.inj hf; subst hf2
      exact V_zret (pc := 24) hF g32 dX5_readOne_24
theorem kX5_rd {G : Wc} {o oa ob : Nat} (hk0 : kd o = 5) (hk1 : kd oa = 8) (hk2 : kd ob = 4) : ∀ n : Nat, (∀ {S Sa Sb : Ob} {c : Int32} {r : Int32 × Ob × Ob}, (pX5_rd n).1 S Sa Sb c = some r → Cn yX5_readCond cX5_readCond 8 (some .boolean) (5 + n) (300 + 40 * n) G [.ref (wA G o 0), .ref (wA G oa 0), .ref (wA G ob 0), .int c] [(o, S), (oa, Sa), (ob, Sb)] [(o, r.2.1), (oa, r.2.2), (ob, Sb)] (some (.int r.1))) ∧ (∀ {S Sa Sb : Ob} {c : Int32} {r : Int32 × Ob × Ob}, (pX5_rd n).2 S Sa Sb c = some r → Cn yX5_readOne cX5_readOne 7 (some .boolean) (5 + n) (300 + 40 * n) G [.ref (wA G o 0), .ref (wA G oa 0), .ref (wA G ob 0), .int c] [(o, S), (oa, Sa), (ob, Sb)] [(o, r.2.1), (oa, r.2.2), (ob, Sb)] (some (.int r.1))) := by
  intro n
  induction n with
  | zero => refine ⟨?_, ?_⟩ <;> (intro S Sa Sb c r h; cases h)
  | succ n ih =>
    refine ⟨?_, ?_⟩
    · intro S Sa Sb c r h
      exact kX5_readCondF hk0 hk1 hk2 ih.1 ih.2 h
    · intro S Sa Sb c r h
      exact kX5_readOneF hk0 hk1 hk2 ih.1 ih.2 h
theorem kX5_readCond {G : Wc} {o oa ob : Nat} {S Sa Sb : Ob} {c : Int32} {r : Int32 × Ob × Ob} (hk0 : kd o = 5) (hk1 : kd oa = 8) (hk2 : kd ob = 4) (hf : pX5_readCond S Sa Sb c = some r) : Cn yX5_readCond cX5_readCond 8 (some .boolean) 45 1900 G [.ref (wA G o 0), .ref (wA G oa 0), .ref (wA G ob 0), .int c] [(o, S), (oa, Sa), (ob, Sb)] [(o, r.2.1), (oa, r.2.2), (ob, Sb)] (some (.int r.1)) := (kX5_rd hk0 hk1 hk2 40).1 hf

set_option maxRecDepth 20000 in
theorem kX5_readFrom {G : Wc} {o oa ob : Nat} {S : Ob} {Sa : Ob} {Sb : Ob}  {r : Ob × Ob} (hk0 : kd o = 5) (hk1 : kd oa = 8) (hk2 : kd ob = 4) (hf : pX5_readFrom S Sa Sb   = some r) : Cn yX5_readFrom cX5_readFrom 3 (none) 46 1927 G [.ref (wA G o 0), .ref (wA G oa 0), .ref (wA G ob 0)] [(o, S), (oa, Sa), (ob, Sb)] [(o, r.1), (oa, r.2), (ob, Sb)] none := by
  refine V_method [(0, .ref (wA G o 0)), (1, .ref (wA G oa 0)), (2, .ref (wA G ob 0))] (by decide) rfl (Nat.le_of_ble_eq_true rfl) rfl (fun Γ hF => ?_)
  unfold pX5_readFrom at hf
  refine v_aload_n (pc := 0) 0 dX5_readFrom_0 rfl ?_
  replace hf := bd_some hf; obtain ⟨r1, h2, hf⟩ := hf
  refine V_call (pc := 1) (us1 := [_, _, _]) [0] 0 (kX5_forget (o := o) hk0 h2) rfl rfl rfl rfl rfl hk0 (Nat.le_of_ble_eq_true rfl) rfl rfl rfl wm_RX5_37 md_X5_forget (Nat.le_of_ble_eq_true rfl) (Nat.le_of_ble_eq_true rfl) rfl rfl (Nat.le_of_ble_eq_true rfl) dX5_readFrom_1 ?_
  refine v_aload_n (pc := 4) 1 dX5_readFrom_4 rfl ?_
  refine v_sipush (pc := 5) (200 : Int32) dX5_readFrom_5 cs_200 ?_
  replace hf := bd_some hf; obtain ⟨r3, h4, hf⟩ := hf
  refine V_call (pc := 8) (us1 := [_, _, _]) [1] 1 (kX8_open (o := oa) hk1 h4) rfl rfl rfl rfl rfl hk1 (Nat.le_of_ble_eq_true rfl) rfl rfl rfl wm_RX5_40 md_X8_open (Nat.le_of_ble_eq_true rfl) (Nat.le_of_ble_eq_true rfl) rfl rfl (Nat.le_of_ble_eq_true rfl) dX5_readFrom_8 ?_
  refine v_aload_n (pc := 11) 0 dX5_readFrom_11 rfl ?_
  refine v_aload_n (pc := 12) 1 dX5_readFrom_12 rfl ?_
  refine v_aload_n (pc := 13) 2 dX5_readFrom_13 rfl ?_
  refine v_iconst (pc := 14) (1 : Int32) dX5_readFrom_14 ci_1 ?_
  replace hf := bd_some hf; obtain ⟨r5, h6, hf⟩ := hf
  refine V_call (pc := 15) (us1 := [_, _, _]) [0, 1, 2] 0 (kX5_readCond (o := o) (oa := oa) (ob := ob) hk0 hk1 hk2 h6) rfl rfl rfl rfl rfl hk0 (Nat.le_of_ble_eq_true rfl) rfl rfl rfl wm_RX5_46 md_X5_readCond (Nat.le_of_ble_eq_true rfl) (Nat.le_of_ble_eq_true rfl) rfl rfl (Nat.le_of_ble_eq_true rfl) dX5_readFrom_15 ?_
  refine v_if_eq (pc := 18) 34 dX5_readFrom_18 (by decide) (fun c7 => ?_) (fun c7 => ?_)
  · replace hf := it_t c7 hf
    have hf2 := Option.some.inj hf; subst hf2
    exact V_vret (pc := 34) hF dX5_readFrom_34
  · replace hf := it_f c7 hf
    refine v_aload_n (pc := 21) 1 dX5_readFrom_21 rfl ?_
    refine gf_RX5_50 (pc := 22) 1 rfl hk1 dX5_readFrom_22 ?_
    refine v_if_eq (pc := 25) 34 dX5_readFrom_25 (by decide) (fun c8 => ?_) (fun c8 => ?_)
    · replace hf := it_t c8 hf
      have hf2 := Option.some.inj hf; subst hf2
      exact V_vret (pc := 34) hF dX5_readFrom_34
    · replace hf := it_f c8 hf
      refine v_aload_n (pc := 28) 1 dX5_readFrom_28 rfl ?_
      refine v_iconst (pc := 29) (1 : Int32) dX5_readFrom_29 ci_1 ?_
      replace hf := bd_some hf; obtain ⟨r9, h10, hf⟩ := hf
      refine V_call (pc := 30) (us1 := [_, _, _]) [1] 1 (kX8_refuse (o := oa) hk1 h10) rfl rfl rfl rfl rfl hk1 (Nat.le_of_ble_eq_true rfl) rfl rfl rfl wm_RX5_53 md_X8_refuse (Nat.le_of_ble_eq_true rfl) (Nat.le_of_ble_eq_true rfl) rfl rfl (Nat.le_of_ble_eq_true rfl) dX5_readFrom_30 ?_
      refine v_pop (pc := 33) dX5_readFrom_33 rfl ?_
      have hf2 := Option.some.inj hf; subst hf2
      exact V_vret (pc := 34) hF dX5_readFrom_34
set_option maxRecDepth 20000 in
theorem wX6_knotsOf_l4 {G : Wc} {Γ : Cx} {o : Nat} {S : Ob} {l1 : Int32} (hk0 : kd o = 6) : ∀ (n : Nat) {l2 : Int32} {l3 : Int32} {r : Int32}, pX6_knotsOf_l4  S l1 n l2 l3 = some r → V cX6_knotsOf RX6 2 82 4 G Γ [(o, S)] 40 [(2, .int r)] [] → V cX6_knotsOf RX6 2 82 4 G Γ [(o, S)] 4 [(0, .ref (wA G o 0)), (1, .int l1), (2, .int l2), (3, .int l3)] [] := by
  intro n
  induction n with
  | zero => intro l2 l3 r hf hx; unfold pX6_knotsOf_l4 at hf; cases hf
  | succ n ih =>
    intro l2 l3 r hf hx
    have hrec : ∀ {l2 : Int32} {l3 : Int32}, pX6_knotsOf_l4  S l1 n l2 l3 = some r → V cX6_knotsOf RX6 2 82 4 G Γ [(o, S)] 4 [(0, .ref (wA G o 0)), (1, .int l1), (2, .int l2), (3, .int l3)] [] := fun h => ih h hx
    clear ih
    unfold pX6_knotsOf_l4 at hf
    refine v_iload_n (pc := 4) 3 dX6_knotsOf_4 rfl ?_
    refine v_aload_n (pc := 5) 0 dX6_knotsOf_5 rfl ?_
    refine gf_RX6_15 (pc := 6) 0 rfl hk0 dX6_knotsOf_6 ?_
    refine v_iload_n (pc := 9) 1 dX6_knotsOf_9 rfl ?_
    replace hf := gd_some hf; obtain ⟨g1, hf⟩ := hf
    refine al_X6_1 (pc := 10) _ 0 rfl hk0 rfl g1 dX6_knotsOf_10 ?_
    refine v_icmp_ge (pc := 11) 40 dX6_knotsOf_11 (by decide) (fun c2 => ?_) (fun c2 => ?_)
    · replace hf := it_t c2 hf
      have hf2 := Option.some.inj hf; subst hf2
      exact V_sub [2] rfl hx
    · replace hf := it_f c2 hf
      refine v_aload_n (pc := 14) 0 dX6_knotsOf_14 rfl ?_
      refine v_iload_n (pc := 15) 1 dX6_knotsOf_15 rfl ?_
      refine v_iload_n (pc := 16) 3 dX6_knotsOf_16 rfl ?_
      replace hf := bd_some hf; obtain ⟨r3, h4, hf⟩ := hf
      refine V_call (pc := 17) (us1 := [_]) [0] 0 (kX6_layerAt (o := o) hk0 h4) rfl rfl rfl rfl rfl hk0 (Nat.le_of_ble_eq_true rfl) rfl rfl rfl wm_RX6_55 md_X6_layerAt (Nat.le_of_ble_eq_true rfl) (Nat.le_of_ble_eq_true rfl) rfl rfl (Nat.le_of_ble_eq_true rfl) dX6_knotsOf_17 ?_
      refine v_aload_n (pc := 20) 0 dX6_knotsOf_20 rfl ?_
      refine v_iload_n (pc := 21) 1 dX6_knotsOf_21 rfl ?_
      refine v_iload_n (pc := 22) 3 dX6_knotsOf_22 rfl ?_
      refine v_iconst (pc := 23) (1 : Int32) dX6_knotsOf_23 ci_1 ?_
      refine v_isub (pc := 24) dX6_knotsOf_24 ?_
      replace hf := bd_some hf; obtain ⟨r5, h6, hf⟩ := hf
      refine V_call (pc := 25) (us1 := [_]) [0] 0 (kX6_layerAt (o := o) hk0 h6) rfl rfl rfl rfl rfl hk0 (Nat.le_of_ble_eq_true rfl) rfl rfl rfl wm_RX6_55 md_X6_layerAt (Nat.le_of_ble_eq_true rfl) (Nat.le_of_ble_eq_true rfl) rfl rfl (Nat.le_of_ble_eq_true rfl) dX6_knotsOf_25 ?_
      refine v_icmp_eq (pc := 28) 34 dX6_knotsOf_28 (by decide) (fun c7 => ?_) (fun c7 => ?_)
      · replace hf := it_t c7 hf
        refine v_iinc (pc := 34) 3 (l3 + (1 : Int32)) [(3, _), (0, _), (1, _), (2, _)] dX6_knotsOf_34 rfl (congrArg (fun z => _ + z) ci_1) (Nat.le_of_ble_eq_true rfl) rfl ?_
        refine v_goto (pc := 37) 4 dX6_knotsOf_37 (by decide) ?_
        exact V_sub [1, 2, 3, 0] rfl (hrec hf)
      · replace hf := it_f c7 hf
        refine v_iinc (pc := 31) 2 (l2 + (1 : Int32)) [(2, _), (0, _), (1, _), (3, _)] dX6_knotsOf_31 rfl (congrArg (fun z => _ + z) ci_1) (Nat.le_of_ble_eq_true rfl) rfl ?_
        refine v_iinc (pc := 34) 3 (l3 + (1 : Int32)) [(3, _), (2, _), (0, _), (1, _)] dX6_knotsOf_34 rfl (congrArg (fun z => _ + z) ci_1) (Nat.le_of_ble_eq_true rfl) rfl ?_
        refine v_goto (pc := 37) 4 dX6_knotsOf_37 (by decide) ?_
        exact V_sub [2, 3, 1, 0] rfl (hrec hf)
set_option maxRecDepth 20000 in
theorem kX6_knotsOf {G : Wc} {o : Nat} {S : Ob} {a : Int32} {r : Int32} (hk0 : kd o = 6) (hf : pX6_knotsOf S  a = some r) : Cn yX6_knotsOf cX6_knotsOf 4 (some .int) 2 82 G [.ref (wA G o 0), .int a] [(o, S)] [(o, S)] (some (.int r)) := by
  refine V_method [(0, .ref (wA G o 0)), (1, .int a)] (by decide) rfl (Nat.le_of_ble_eq_true rfl) rfl (fun Γ hF => ?_)
  unfold pX6_knotsOf at hf
  refine v_iconst (pc := 0) (0 : Int32) dX6_knotsOf_0 ci_0 ?_
  refine v_istore_n (pc := 1) [(2, _), (0, _), (1, _)] dX6_knotsOf_1 (Nat.le_of_ble_eq_true rfl) rfl ?_
  refine v_iconst (pc := 2) (0 : Int32) dX6_knotsOf_2 ci_0 ?_
  refine v_istore_n (pc := 3) [(3, _), (2, _), (0, _), (1, _)] dX6_knotsOf_3 (Nat.le_of_ble_eq_true rfl) rfl ?_
  replace hf := bd_some hf; obtain ⟨r8, h9, hf⟩ := hf
  refine V_sub [2, 3, 1, 0] rfl (wX6_knotsOf_l4 hk0 fu h9 ?_)
  refine v_iload_n (pc := 40) 0 dX6_knotsOf_40 rfl ?_
  have hf2 := Option.some.inj hf; subst hf2
  exact V_iret (pc := 41) hF dX6_knotsOf_41
set_option maxRecDepth 20000 in
theorem kX5_measureOf {G : Wc} {ob : Nat} {Sb : Ob} {a : Option Nat} {c : Int32} {r : Int32} (hk0 : kd ob = 6) (hf : pX5_measureOf Sb  a c = some r) : Cn yX5_measureOf cX5_measureOf 3 (some .int) 3 105 G [va_re (wE G) a, .ref (wA G ob 0), .int c] [(ob, Sb)] [(ob, Sb)] (some (.int r)) := by
  refine V_method [(0, va_re (wE G) a), (1, .ref (wA G ob 0)), (2, .int c)] (by decide) rfl (by cases a <;> exact Nat.le_of_ble_eq_true rfl) (by cases a <;> rfl) (fun Γ hF => ?_)
  unfold pX5_measureOf at hf
  refine v_eload_n (pc := 0) 0 dX5_measureOf_0 rfl ?_
  refine V_gete (pc := 1) 2 "CAUGHT" (by decide) rfl wf_RX5_109 dX5_measureOf_1 ?_
  replace hf := gd_some hf; obtain ⟨g1, hf⟩ := hf
  refine v_acmp_ne (pc := 4) g1 rfl 14 dX5_measureOf_4 (by decide) (fun c2 => ?_) (fun c2 => ?_)
  · replace hf := it_f c2 hf
    refine v_eload_n (pc := 14) 0 dX5_measureOf_14 rfl ?_
    refine V_gete (pc := 15) 19 "KNOTS" (by decide) rfl wf_RX5_112 dX5_measureOf_15 ?_
    replace hf := gd_some hf; obtain ⟨g3, hf⟩ := hf
    refine v_acmp_ne (pc := 18) g3 rfl 27 dX5_measureOf_18 (by decide) (fun c4 => ?_) (fun c4 => ?_)
    · replace hf := it_f c4 hf
      refine v_eload_n (pc := 27) 0 dX5_measureOf_27 rfl ?_
      refine V_gete (pc := 28) 20 "PAIN" (by decide) rfl wf_RX5_115 dX5_measureOf_28 ?_
      replace hf := gd_some hf; obtain ⟨g5, hf⟩ := hf
      refine v_acmp_ne (pc := 31) g5 rfl 43 dX5_measureOf_31 (by decide) (fun c6 => ?_) (fun c6 => ?_)
      · replace hf := it_f c6 hf
        refine v_iload_n (pc := 43) 2 dX5_measureOf_43 rfl ?_
        have hf2 := Option.some.inj hf; subst hf2
        exact V_iret (pc := 44) hF dX5_measureOf_44
      · replace hf := it_t c6 hf
        refine v_aload_n (pc := 34) 1 dX5_measureOf_34 rfl ?_
        refine gf_RX5_156 (pc := 35) 0 rfl hk0 dX5_measureOf_35 ?_
        refine v_iload_n (pc := 38) 2 dX5_measureOf_38 rfl ?_
        replace hf := gd_some hf; obtain ⟨g7, hf⟩ := hf
        refine al_X6_2 (pc := 39) _ 0 rfl hk0 rfl g7 dX5_measureOf_39 ?_
        refine v_goto (pc := 40) 44 dX5_measureOf_40 (by decide) ?_
        have hf2 := Option.some.inj hf; subst hf2
        exact V_iret (pc := 44) hF dX5_measureOf_44
    · replace hf := it_t c4 hf
      refine v_aload_n (pc := 21) 1 dX5_measureOf_21 rfl ?_
      refine v_iload_n (pc := 22) 2 dX5_measureOf_22 rfl ?_
      replace hf := bd_some hf; obtain ⟨r8, h9, hf⟩ := hf
      refine V_call (pc := 23) (us1 := [_]) [0] 0 (kX6_knotsOf (o := ob) hk0 h9) rfl rfl rfl rfl rfl hk0 (Nat.le_of_ble_eq_true rfl) rfl rfl rfl wm_RX5_173 md_X6_knotsOf (Nat.le_of_ble_eq_true rfl) (Nat.le_of_ble_eq_true rfl) rfl rfl (Nat.le_of_ble_eq_true rfl) dX5_measureOf_23 ?_
      have hf2 := Option.some.inj hf; subst hf2
      exact V_iret (pc := 26) hF dX5_measureOf_26
  · replace hf := it_t c2 hf
    refine v_aload_n (pc := 7) 1 dX5_measureOf_7 rfl ?_
    refine gf_RX5_148 (pc := 8) 0 rfl hk0 dX5_measureOf_8 ?_
    refine v_iload_n (pc := 11) 2 dX5_measureOf_11 rfl ?_
    replace hf := gd_some hf; obtain ⟨g10, hf⟩ := hf
    refine al_X6_1 (pc := 12) _ 0 rfl hk0 rfl g10 dX5_measureOf_12 ?_
    have hf2 := Option.some.inj hf; subst hf2
    exact V_iret (pc := 13) hF dX5_measureOf_13
set_option maxRecDepth 20000 in
theorem wX6_alike_l19 {G : Wc} {Γ : Cx} {o : Nat} {S : Ob} {l1 : Int32} {l2 : Int32} {r : Int32} (hk0 : kd o = 6) (hF : Fnl G Γ (some .boolean) (some (.int r)) (ov Γ.2.2.2 [(o, S)])) : ∀ (n : Nat) {l3 : Int32}, pX6_alike_l19  S l1 l2 n l3 = some r → V cX6_alike RX6 2 82 4 G Γ [(o, S)] 19 [(0, .ref (wA G o 0)), (1, .int l1), (2, .int l2), (3, .int l3)] [] := by
  intro n
  induction n with
  | zero => intro l3 hf; unfold pX6_alike_l19 at hf; cases hf
  | succ n ih =>
    intro l3 hf
    have hrec : ∀ {l3 : Int32}, pX6_alike_l19  S l1 l2 n l3 = some r → V cX6_alike RX6 2 82 4 G Γ [(o, S)] 19 [(0, .ref (wA G o 0)), (1, .int l1), (2, .int l2), (3, .int l3)] [] := fun h => ih h
    clear ih
    unfold pX6_alike_l19 at hf
    refine v_iload_n (pc := 19) 3 dX6_alike_19 rfl ?_
    refine v_aload_n (pc := 20) 0 dX6_alike_20 rfl ?_
    refine gf_RX6_15 (pc := 21) 0 rfl hk0 dX6_alike_21 ?_
    refine v_iload_n (pc := 24) 1 dX6_alike_24 rfl ?_
    replace hf := gd_some hf; obtain ⟨g4, hf⟩ := hf
    refine al_X6_1 (pc := 25) _ 0 rfl hk0 rfl g4 dX6_alike_25 ?_
    refine v_icmp_ge (pc := 26) 52 dX6_alike_26 (by decide) (fun c5 => ?_) (fun c5 => ?_)
    · replace hf := it_t c5 hf
      refine v_iconst (pc := 52) (1 : Int32) dX6_alike_52 ci_1 ?_
      have hf2 := Option.some.inj hf; subst hf2
      exact V_zret (pc := 53) hF rfl dX6_alike_53
    · replace hf := it_f c5 hf
      refine v_aload_n (pc := 29) 0 dX6_alike_29 rfl ?_
      refine v_iload_n (pc := 30) 1 dX6_alike_30 rfl ?_
      refine v_iload_n (pc := 31) 3 dX6_alike_31 rfl ?_
      replace hf := bd_some hf; obtain ⟨r6, h7, hf⟩ := hf
      refine V_call (pc := 32) (us1 := [_]) [0] 0 (kX6_layerAt (o := o) hk0 h7) rfl rfl rfl rfl rfl hk0 (Nat.le_of_ble_eq_true rfl) rfl rfl rfl wm_RX6_55 md_X6_layerAt (Nat.le_of_ble_eq_true rfl) (Nat.le_of_ble_eq_true rfl) rfl rfl (Nat.le_of_ble_eq_true rfl) dX6_alike_32 ?_
      refine v_aload_n (pc := 35) 0 dX6_alike_35 rfl ?_
      refine v_iload_n (pc := 36) 2 dX6_alike_36 rfl ?_
      refine v_iload_n (pc := 37) 3 dX6_alike_37 rfl ?_
      replace hf := bd_some hf; obtain ⟨r8, h9, hf⟩ := hf
      refine V_call (pc := 38) (us1 := [_]) [0] 0 (kX6_layerAt (o := o) hk0 h9) rfl rfl rfl rfl rfl hk0 (Nat.le_of_ble_eq_true rfl) rfl rfl rfl wm_RX6_55 md_X6_layerAt (Nat.le_of_ble_eq_true rfl) (Nat.le_of_ble_eq_true rfl) rfl rfl (Nat.le_of_ble_eq_true rfl) dX6_alike_38 ?_
      refine v_icmp_eq (pc := 41) 46 dX6_alike_41 (by decide) (fun c10 => ?_) (fun c10 => ?_)
      · replace hf := it_t c10 hf
        refine v_iinc (pc := 46) 3 (l3 + (1 : Int32)) [(3, _), (0, _), (1, _), (2, _)] dX6_alike_46 rfl (congrArg (fun z => _ + z) ci_1) (Nat.le_of_ble_eq_true rfl) rfl ?_
        refine v_goto (pc := 49) 19 dX6_alike_49 (by decide) ?_
        exact V_sub [1, 2, 3, 0] rfl (hrec hf)
      · replace hf := it_f c10 hf
        refine v_iconst (pc := 44) (0 : Int32) dX6_alike_44 ci_0 ?_
        have hf2 := Option.some.inj hf; subst hf2
        exact V_zret (pc := 45) hF rfl dX6_alike_45
set_option maxRecDepth 20000 in
theorem kX6_alike {G : Wc} {o : Nat} {S : Ob} {a : Int32} {b : Int32} {r : Int32} (hk0 : kd o = 6) (hf : pX6_alike S  a b = some r) : Cn yX6_alike cX6_alike 4 (some .boolean) 2 82 G [.ref (wA G o 0), .int a, .int b] [(o, S)] [(o, S)] (some (.int r)) := by
  refine V_method [(0, .ref (wA G o 0)), (1, .int a), (2, .int b)] (by decide) rfl (Nat.le_of_ble_eq_true rfl) rfl (fun Γ hF => ?_)
  unfold pX6_alike at hf
  refine v_aload_n (pc := 0) 0 dX6_alike_0 rfl ?_
  refine gf_RX6_15 (pc := 1) 0 rfl hk0 dX6_alike_1 ?_
  refine v_iload_n (pc := 4) 1 dX6_alike_4 rfl ?_
  replace hf := gd_some hf; obtain ⟨g1, hf⟩ := hf
  refine al_X6_1 (pc := 5) _ 0 rfl hk0 rfl g1 dX6_alike_5 ?_
  refine v_aload_n (pc := 6) 0 dX6_alike_6 rfl ?_
  refine gf_RX6_15 (pc := 7) 0 rfl hk0 dX6_alike_7 ?_
  refine v_iload_n (pc := 10) 2 dX6_alike_10 rfl ?_
  replace hf := gd_some hf; obtain ⟨g2, hf⟩ := hf
  refine al_X6_1 (pc := 11) _ 0 rfl hk0 rfl g2 dX6_alike_11 ?_
  refine v_icmp_eq (pc := 12) 17 dX6_alike_12 (by decide) (fun c3 => ?_) (fun c3 => ?_)
  · replace hf := it_t c3 hf
    refine v_iconst (pc := 17) (0 : Int32) dX6_alike_17 ci_0 ?_
    refine v_istore_n (pc := 18) [(3, _), (0, _), (1, _), (2, _)] dX6_alike_18 (Nat.le_of_ble_eq_true rfl) rfl ?_
    exact V_sub [1, 2, 3, 0] rfl (wX6_alike_l19 hk0 hF fu hf)
  · replace hf := it_f c3 hf
    refine v_iconst (pc := 15) (0 : Int32) dX6_alike_15 ci_0 ?_
    have hf2 := Option.some.inj hf; subst hf2
    exact V_zret (pc := 16) hF rfl dX6_alike_16
set_option maxRecDepth 20000 in
theorem wX6_has_l2 {G : Wc} {Γ : Cx} {o : Nat} {S : Ob} {l1 : Int32} {l2 : Int32} {r : Int32} (hk0 : kd o = 6) (hF : Fnl G Γ (some .boolean) (some (.int r)) (ov Γ.2.2.2 [(o, S)])) : ∀ (n : Nat) {l3 : Int32}, pX6_has_l2  S l1 l2 n l3 = some r → V cX6_has RX6 2 82 4 G Γ [(o, S)] 2 [(0, .ref (wA G o 0)), (1, .int l1), (2, .int l2), (3, .int l3)] [] := by
  intro n
  induction n with
  | zero => intro l3 hf; unfold pX6_has_l2 at hf; cases hf
  | succ n ih =>
    intro l3 hf
    have hrec : ∀ {l3 : Int32}, pX6_has_l2  S l1 l2 n l3 = some r → V cX6_has RX6 2 82 4 G Γ [(o, S)] 2 [(0, .ref (wA G o 0)), (1, .int l1), (2, .int l2), (3, .int l3)] [] := fun h => ih h
    clear ih
    unfold pX6_has_l2 at hf
    refine v_iload_n (pc := 2) 3 dX6_has_2 rfl ?_
    refine v_aload_n (pc := 3) 0 dX6_has_3 rfl ?_
    refine gf_RX6_15 (pc := 4) 0 rfl hk0 dX6_has_4 ?_
    refine v_iload_n (pc := 7) 1 dX6_has_7 rfl ?_
    replace hf := gd_some hf; obtain ⟨g1, hf⟩ := hf
    refine al_X6_1 (pc := 8) _ 0 rfl hk0 rfl g1 dX6_has_8 ?_
    refine v_icmp_ge (pc := 9) 30 dX6_has_9 (by decide) (fun c2 => ?_) (fun c2 => ?_)
    · replace hf := it_t c2 hf
      refine v_iconst (pc := 30) (0 : Int32) dX6_has_30 ci_0 ?_
      have hf2 := Option.some.inj hf; subst hf2
      exact V_zret (pc := 31) hF rfl dX6_has_31
    · replace hf := it_f c2 hf
      refine v_aload_n (pc := 12) 0 dX6_has_12 rfl ?_
      refine v_iload_n (pc := 13) 1 dX6_has_13 rfl ?_
      refine v_iload_n (pc := 14) 3 dX6_has_14 rfl ?_
      replace hf := bd_some hf; obtain ⟨r3, h4, hf⟩ := hf
      refine V_call (pc := 15) (us1 := [_]) [0] 0 (kX6_layerAt (o := o) hk0 h4) rfl rfl rfl rfl rfl hk0 (Nat.le_of_ble_eq_true rfl) rfl rfl rfl wm_RX6_55 md_X6_layerAt (Nat.le_of_ble_eq_true rfl) (Nat.le_of_ble_eq_true rfl) rfl rfl (Nat.le_of_ble_eq_true rfl) dX6_has_15 ?_
      refine v_iload_n (pc := 18) 2 dX6_has_18 rfl ?_
      refine v_icmp_ne (pc := 19) 24 dX6_has_19 (by decide) (fun c5 => ?_) (fun c5 => ?_)
      · replace hf := it_f c5 hf
        refine v_iinc (pc := 24) 3 (l3 + (1 : Int32)) [(3, _), (0, _), (1, _), (2, _)] dX6_has_24 rfl (congrArg (fun z => _ + z) ci_1) (Nat.le_of_ble_eq_true rfl) rfl ?_
        refine v_goto (pc := 27) 2 dX6_has_27 (by decide) ?_
        exact V_sub [1, 2, 3, 0] rfl (hrec hf)
      · replace hf := it_t c5 hf
        refine v_iconst (pc := 22) (1 : Int32) dX6_has_22 ci_1 ?_
        have hf2 := Option.some.inj hf; subst hf2
        exact V_zret (pc := 23) hF rfl dX6_has_23
set_option maxRecDepth 20000 in
theorem kX6_has {G : Wc} {o : Nat} {S : Ob} {a : Int32} {b : Int32} {r : Int32} (hk0 : kd o = 6) (hf : pX6_has S  a b = some r) : Cn yX6_has cX6_has 4 (some .boolean) 2 82 G [.ref (wA G o 0), .int a, .int b] [(o, S)] [(o, S)] (some (.int r)) := by
  refine V_method [(0, .ref (wA G o 0)), (1, .int a), (2, .int b)] (by decide) rfl (Nat.le_of_ble_eq_true rfl) rfl (fun Γ hF => ?_)
  unfold pX6_has at hf
  refine v_iconst (pc := 0) (0 : Int32) dX6_has_0 ci_0 ?_
  refine v_istore_n (pc := 1) [(3, _), (0, _), (1, _), (2, _)] dX6_has_1 (Nat.le_of_ble_eq_true rfl) rfl ?_
  exact V_sub [1, 2, 3, 0] rfl (wX6_has_l2 hk0 hF fu hf)
set_option maxRecDepth 20000 in
theorem kX5_isPlainTrue {G : Wc} {o oa ob : Nat} {S : Ob} {Sa : Ob} {Sb : Ob} {c : Int32} {d : Int32} {r : Int32} (hk0 : kd o = 5) (hk1 : kd oa = 4) (hk2 : kd ob = 6) (hf : pX5_isPlainTrue S Sa Sb  c d = some r) : Cn yX5_isPlainTrue cX5_isPlainTrue 7 (some .boolean) 4 127 G [.ref (wA G o 0), .ref (wA G oa 0), .ref (wA G ob 0), .int c, .int d] [(o, S), (oa, Sa), (ob, Sb)] [(o, S), (oa, Sa), (ob, Sb)] (some (.int r)) := by
  refine V_method [(0, .ref (wA G o 0)), (1, .ref (wA G oa 0)), (2, .ref (wA G ob 0)), (3, .int c), (4, .int d)] (by decide) rfl (Nat.le_of_ble_eq_true rfl) rfl (fun Γ hF => ?_)
  unfold pX5_isPlainTrue at hf
  refine v_aload_n (pc := 0) 0 dX5_isPlainTrue_0 rfl ?_
  refine gf_RX5_13 (pc := 1) 0 rfl hk0 dX5_isPlainTrue_1 ?_
  refine v_iload (pc := 4) 4 dX5_isPlainTrue_4 rfl ?_
  replace hf := gd_some hf; obtain ⟨g1, hf⟩ := hf
  refine al_X5_0 (pc := 6) _ 0 rfl hk0 rfl g1 dX5_isPlainTrue_6 ?_
  refine v_estore (pc := 7) [(5, _), (0, _), (1, _), (2, _), (3, _), (4, _)] dX5_isPlainTrue_7 (Nat.le_of_ble_eq_true rfl) rfl ?_
  refine v_eload (pc := 9) 0 dX5_isPlainTrue_9 rfl ?_
  refine V_gete (pc := 11) 14 "BARE" (by decide) rfl wf_RX5_91 dX5_isPlainTrue_11 ?_
  replace hf := gd_some hf; obtain ⟨g2, hf⟩ := hf
  refine v_acmp_ne (pc := 14) g2 rfl 32 dX5_isPlainTrue_14 (by decide) (fun c3 => ?_) (fun c3 => ?_)
  · replace hf := it_f c3 hf
    refine v_eload (pc := 32) 0 dX5_isPlainTrue_32 rfl ?_
    refine V_gete (pc := 34) 15 "NEST" (by decide) rfl wf_RX5_94 dX5_isPlainTrue_34 ?_
    replace hf := gd_some hf; obtain ⟨g4, hf⟩ := hf
    refine v_acmp_ne (pc := 37) g4 rfl 46 dX5_isPlainTrue_37 (by decide) (fun c5 => ?_) (fun c5 => ?_)
    · replace hf := it_f c5 hf
      refine v_eload (pc := 46) 0 dX5_isPlainTrue_46 rfl ?_
      refine V_gete (pc := 48) 16 "SORE" (by decide) rfl wf_RX5_97 dX5_isPlainTrue_48 ?_
      replace hf := gd_some hf; obtain ⟨g6, hf⟩ := hf
      refine v_acmp_ne (pc := 51) g6 rfl 75 dX5_isPlainTrue_51 (by decide) (fun c7 => ?_) (fun c7 => ?_)
      · replace hf := it_f c7 hf
        refine v_eload (pc := 75) 0 dX5_isPlainTrue_75 rfl ?_
        refine V_gete (pc := 77) 17 "HAS" (by decide) rfl wf_RX5_100 dX5_isPlainTrue_77 ?_
        replace hf := gd_some hf; obtain ⟨g8, hf⟩ := hf
        refine v_acmp_ne (pc := 80) g8 rfl 96 dX5_isPlainTrue_80 (by decide) (fun c9 => ?_) (fun c9 => ?_)
        · replace hf := it_f c9 hf
          refine v_eload (pc := 96) 0 dX5_isPlainTrue_96 rfl ?_
          refine V_gete (pc := 98) 18 "LIKE" (by decide) rfl wf_RX5_103 dX5_isPlainTrue_98 ?_
          replace hf := gd_some hf; obtain ⟨g10, hf⟩ := hf
          refine v_acmp_ne (pc := 101) g10 rfl 117 dX5_isPlainTrue_101 (by decide) (fun c11 => ?_) (fun c11 => ?_)
          · replace hf := it_f c11 hf
            refine v_eload (pc := 117) 0 dX5_isPlainTrue_117 rfl ?_
            refine v_aload_n (pc := 119) 3 dX5_isPlainTrue_119 rfl ?_
            refine v_iload_n (pc := 120) 4 dX5_isPlainTrue_120 rfl ?_
            replace hf := bd_some hf; obtain ⟨r12, h13, hf⟩ := hf
            refine V_callS (pc := 121) (us1 := [_, _, _]) [2] (kX5_measureOf (ob := ob) hk2 h13) rfl rfl rfl rfl wm_RX5_169 md_X5_measureOf (Nat.le_of_ble_eq_true rfl) (Nat.le_of_ble_eq_true rfl) rfl rfl (Nat.le_of_ble_eq_true rfl) dX5_isPlainTrue_121 ?_
            refine v_istore (pc := 124) [(6, .int r12), (5, va_re (wE G) (oX S 0 d.toNatClampNeg)), (0, .ref (wA G o 0)), (1, .ref (wA G oa 0)), (2, .ref (wA G ob 0)), (3, .int c), (4, .int d)] dX5_isPlainTrue_124 (Nat.le_of_ble_eq_true rfl) (by generalize (oX S 0 d.toNatClampNeg) = z9; cases z9 <;> rfl) ?_
            refine v_aload_n (pc := 126) 2 dX5_isPlainTrue_126 rfl ?_
            refine gf_RX5_17 (pc := 127) 0 rfl hk0 dX5_isPlainTrue_127 ?_
            refine v_iload (pc := 130) 6 dX5_isPlainTrue_130 rfl ?_
            replace hf := gd_some hf; obtain ⟨g14, hf⟩ := hf
            refine al_X5_1 (pc := 132) _ 0 rfl hk0 rfl g14 dX5_isPlainTrue_132 ?_
            refine v_bipush (pc := 133) (60 : Int32) dX5_isPlainTrue_133 cb_60 ?_
            refine v_icmp_ne (pc := 135) 156 dX5_isPlainTrue_135 (by decide) (fun c15 => ?_) (fun c15 => ?_)
            · replace hf := it_f c15 hf
              refine v_aload_n (pc := 156) 2 dX5_isPlainTrue_156 rfl ?_
              refine gf_RX5_17 (pc := 157) 0 rfl hk0 dX5_isPlainTrue_157 ?_
              refine v_iload (pc := 160) 6 dX5_isPlainTrue_160 rfl ?_
              replace hf := gd_some hf; obtain ⟨g16, hf⟩ := hf
              refine al_X5_1 (pc := 162) _ 0 rfl hk0 rfl g16 dX5_isPlainTrue_162 ?_
              refine v_bipush (pc := 163) (61 : Int32) dX5_isPlainTrue_163 cb_61 ?_
              refine v_icmp_ne (pc := 165) 188 dX5_isPlainTrue_165 (by decide) (fun c17 => ?_) (fun c17 => ?_)
              · replace hf := it_f c17 hf
                refine v_iload (pc := 188) 0 dX5_isPlainTrue_188 rfl ?_
                refine v_aload_n (pc := 190) 2 dX5_isPlainTrue_190 rfl ?_
                refine gf_RX5_21 (pc := 191) 0 rfl hk0 dX5_isPlainTrue_191 ?_
                refine v_iload (pc := 194) 6 dX5_isPlainTrue_194 rfl ?_
                replace hf := gd_some hf; obtain ⟨g18, hf⟩ := hf
                refine al_X5_2 (pc := 196) _ 0 rfl hk0 rfl g18 dX5_isPlainTrue_196 ?_
                refine v_icmp_le (pc := 197) 204 dX5_isPlainTrue_197 (by decide) (fun c19 => ?_) (fun c19 => ?_)
                · replace hf := it_t c19 hf
                  refine v_iconst (pc := 204) (0 : Int32) dX5_isPlainTrue_204 ci_0 ?_
                  have hf2 := Option.some.inj hf; subst hf2
                  exact V_zret (pc := 205) hF rfl dX5_isPlainTrue_205
                · replace hf := it_f c19 hf
                  refine v_iconst (pc := 200) (1 : Int32) dX5_isPlainTrue_200 ci_1 ?_
                  refine v_goto (pc := 201) 205 dX5_isPlainTrue_201 (by decide) ?_
                  have hf2 := Option.some.inj hf; subst hf2
                  exact V_zret (pc := 205) hF rfl dX5_isPlainTrue_205
              · replace hf := it_t c17 hf
                refine v_iload (pc := 168) 0 dX5_isPlainTrue_168 rfl ?_
                refine v_aload_n (pc := 170) 2 dX5_isPlainTrue_170 rfl ?_
                refine gf_RX5_21 (pc := 171) 0 rfl hk0 dX5_isPlainTrue_171 ?_
                refine v_iload (pc := 174) 6 dX5_isPlainTrue_174 rfl ?_
                replace hf := gd_some hf; obtain ⟨g20, hf⟩ := hf
                refine al_X5_2 (pc := 176) _ 0 rfl hk0 rfl g20 dX5_isPlainTrue_176 ?_
                refine v_icmp_ne (pc := 177) 184 dX5_isPlainTrue_177 (by decide) (fun c21 => ?_) (fun c21 => ?_)
                · replace hf := it_f c21 hf
                  refine v_iconst (pc := 184) (0 : Int32) dX5_isPlainTrue_184 ci_0 ?_
                  refine v_goto (pc := 185) 205 dX5_isPlainTrue_185 (by decide) ?_
                  have hf2 := Option.some.inj hf; subst hf2
                  exact V_zret (pc := 205) hF rfl dX5_isPlainTrue_205
                · replace hf := it_t c21 hf
                  refine v_iconst (pc := 180) (1 : Int32) dX5_isPlainTrue_180 ci_1 ?_
                  refine v_goto (pc := 181) 205 dX5_isPlainTrue_181 (by decide) ?_
                  have hf2 := Option.some.inj hf; subst hf2
                  exact V_zret (pc := 205) hF rfl dX5_isPlainTrue_205
            · replace hf := it_t c15 hf
              refine v_iload (pc := 138) 0 dX5_isPlainTrue_138 rfl ?_
              refine v_aload_n (pc := 140) 2 dX5_isPlainTrue_140 rfl ?_
              refine gf_RX5_21 (pc := 141) 0 rfl hk0 dX5_isPlainTrue_141 ?_
              refine v_iload (pc := 144) 6 dX5_isPlainTrue_144 rfl ?_
              replace hf := gd_some hf; obtain ⟨g22, hf⟩ := hf
              refine al_X5_2 (pc := 146) _ 0 rfl hk0 rfl g22 dX5_isPlainTrue_146 ?_
              refine v_icmp_ge (pc := 147) 154 dX5_isPlainTrue_147 (by decide) (fun c23 => ?_) (fun c23 => ?_)
              · replace hf := it_t c23 hf
                refine v_iconst (pc := 154) (0 : Int32) dX5_isPlainTrue_154 ci_0 ?_
                have hf2 := Option.some.inj hf; subst hf2
                exact V_zret (pc := 155) hF rfl dX5_isPlainTrue_155
              · replace hf := it_f c23 hf
                refine v_iconst (pc := 150) (1 : Int32) dX5_isPlainTrue_150 ci_1 ?_
                refine v_goto (pc := 151) 155 dX5_isPlainTrue_151 (by decide) ?_
                have hf2 := Option.some.inj hf; subst hf2
                exact V_zret (pc := 155) hF rfl dX5_isPlainTrue_155
          · replace hf := it_t c11 hf
            refine v_aload_n (pc := 104) 3 dX5_isPlainTrue_104 rfl ?_
            refine v_iload_n (pc := 105) 4 dX5_isPlainTrue_105 rfl ?_
            refine v_aload_n (pc := 106) 1 dX5_isPlainTrue_106 rfl ?_
            refine gf_RX5_21 (pc := 107) 0 rfl hk0 dX5_isPlainTrue_107 ?_
            refine v_iload (pc := 110) 5 dX5_isPlainTrue_110 rfl ?_
            replace hf := gd_some hf; obtain ⟨g24, hf⟩ := hf
            refine al_X5_2 (pc := 112) _ 0 rfl hk0 rfl g24 dX5_isPlainTrue_112 ?_
            replace hf := bd_some hf; obtain ⟨r25, h26, hf⟩ := hf
            refine V_call (pc := 113) (us1 := [_, _, _]) [2] 2 (kX6_alike (o := ob) hk2 h26) rfl rfl rfl rfl rfl hk2 (Nat.le_of_ble_eq_true rfl) rfl rfl rfl wm_RX5_166 md_X6_alike (Nat.le_of_ble_eq_true rfl) (Nat.le_of_ble_eq_true rfl) rfl rfl (Nat.le_of_ble_eq_true rfl) dX5_isPlainTrue_113 ?_
            replace hf := gd_some hf; obtain ⟨g27, hf⟩ := hf
            have hf2 := Option.some.inj hf; subst hf2
            exact V_zret (pc := 116) hF g27 dX5_isPlainTrue_116
        · replace hf := it_t c9 hf
          refine v_aload_n (pc := 83) 3 dX5_isPlainTrue_83 rfl ?_
          refine v_iload_n (pc := 84) 4 dX5_isPlainTrue_84 rfl ?_
          refine v_aload_n (pc := 85) 1 dX5_isPlainTrue_85 rfl ?_
          refine gf_RX5_21 (pc := 86) 0 rfl hk0 dX5_isPlainTrue_86 ?_
          refine v_iload (pc := 89) 5 dX5_isPlainTrue_89 rfl ?_
          replace hf := gd_some hf; obtain ⟨g28, hf⟩ := hf
          refine al_X5_2 (pc := 91) _ 0 rfl hk0 rfl g28 dX5_isPlainTrue_91 ?_
          replace hf := bd_some hf; obtain ⟨r29, h30, hf⟩ := hf
          refine V_call (pc := 92) (us1 := [_, _, _]) [2] 2 (kX6_has (o := ob) hk2 h30) rfl rfl rfl rfl rfl hk2 (Nat.le_of_ble_eq_true rfl) rfl rfl rfl wm_RX5_162 md_X6_has (Nat.le_of_ble_eq_true rfl) (Nat.le_of_ble_eq_true rfl) rfl rfl (Nat.le_of_ble_eq_true rfl) dX5_isPlainTrue_92 ?_
          replace hf := gd_some hf; obtain ⟨g31, hf⟩ := hf
          have hf2 := Option.some.inj hf; subst hf2
          exact V_zret (pc := 95) hF g31 dX5_isPlainTrue_95
      · replace hf := it_t c7 hf
        refine v_aload_n (pc := 54) 3 dX5_isPlainTrue_54 rfl ?_
        refine gf_RX5_156 (pc := 55) 2 rfl hk2 dX5_isPlainTrue_55 ?_
        refine v_iload_n (pc := 58) 4 dX5_isPlainTrue_58 rfl ?_
        replace hf := gd_some hf; obtain ⟨g32, hf⟩ := hf
        refine al_X6_2 (pc := 59) _ 2 rfl hk2 rfl g32 dX5_isPlainTrue_59 ?_
        refine v_aload_n (pc := 60) 2 dX5_isPlainTrue_60 rfl ?_
        refine gf_RX5_159 (pc := 61) 1 rfl hk1 dX5_isPlainTrue_61 ?_
        refine v_iload_n (pc := 64) 4 dX5_isPlainTrue_64 rfl ?_
        replace hf := gd_some hf; obtain ⟨g33, hf⟩ := hf
        refine al_X4_6 (pc := 65) _ 1 rfl hk1 rfl g33 dX5_isPlainTrue_65 ?_
        refine v_icmp_lt (pc := 66) 73 dX5_isPlainTrue_66 (by decide) (fun c34 => ?_) (fun c34 => ?_)
        · replace hf := it_t c34 hf
          refine v_iconst (pc := 73) (0 : Int32) dX5_isPlainTrue_73 ci_0 ?_
          have hf2 := Option.some.inj hf; subst hf2
          exact V_zret (pc := 74) hF rfl dX5_isPlainTrue_74
        · replace hf := it_f c34 hf
          refine v_iconst (pc := 69) (1 : Int32) dX5_isPlainTrue_69 ci_1 ?_
          refine v_goto (pc := 70) 74 dX5_isPlainTrue_70 (by decide) ?_
          have hf2 := Option.some.inj hf; subst hf2
          exact V_zret (pc := 74) hF rfl dX5_isPlainTrue_74
    · replace hf := it_t c5 hf
      refine v_aload_n (pc := 40) 3 dX5_isPlainTrue_40 rfl ?_
      refine v_iload_n (pc := 41) 4 dX5_isPlainTrue_41 rfl ?_
      replace hf := bd_some hf; obtain ⟨r35, h36, hf⟩ := hf
      refine V_call (pc := 42) (us1 := [_, _, _]) [2] 2 (kX6_isNest (o := ob) hk2 h36) rfl rfl rfl rfl rfl hk2 (Nat.le_of_ble_eq_true rfl) rfl rfl rfl wm_RX5_153 md_X6_isNest (Nat.le_of_ble_eq_true rfl) (Nat.le_of_ble_eq_true rfl) rfl rfl (Nat.le_of_ble_eq_true rfl) dX5_isPlainTrue_42 ?_
      replace hf := gd_some hf; obtain ⟨g37, hf⟩ := hf
      have hf2 := Option.some.inj hf; subst hf2
      exact V_zret (pc := 45) hF g37 dX5_isPlainTrue_45
  · replace hf := it_t c3 hf
    refine v_aload_n (pc := 17) 3 dX5_isPlainTrue_17 rfl ?_
    refine gf_RX5_148 (pc := 18) 2 rfl hk2 dX5_isPlainTrue_18 ?_
    refine v_iload_n (pc := 21) 4 dX5_isPlainTrue_21 rfl ?_
    replace hf := gd_some hf; obtain ⟨g38, hf⟩ := hf
    refine al_X6_1 (pc := 22) _ 2 rfl hk2 rfl g38 dX5_isPlainTrue_22 ?_
    refine v_if_ne (pc := 23) 30 dX5_isPlainTrue_23 (by decide) (fun c39 => ?_) (fun c39 => ?_)
    · replace hf := it_f c39 hf
      refine v_iconst (pc := 30) (0 : Int32) dX5_isPlainTrue_30 ci_0 ?_
      have hf2 := Option.some.inj hf; subst hf2
      exact V_zret (pc := 31) hF rfl dX5_isPlainTrue_31
    · replace hf := it_t c39 hf
      refine v_iconst (pc := 26) (1 : Int32) dX5_isPlainTrue_26 ci_1 ?_
      refine v_goto (pc := 27) 31 dX5_isPlainTrue_27 (by decide) ?_
      have hf2 := Option.some.inj hf; subst hf2
      exact V_zret (pc := 31) hF rfl dX5_isPlainTrue_31
set_option maxRecDepth 20000 in
theorem wX5_isTrueOf_l6 {G : Wc} {Γ : Cx} {o oa ob : Nat} {S : Ob} {Sa : Ob} {Sb : Ob} {l3 : Int32} (hk0 : kd o = 5) (hk1 : kd oa = 4) (hk2 : kd ob = 6) : ∀ (n : Nat) {l4 : Int32} {l5 : Int32} {r : Int32}, pX5_isTrueOf_l6  S Sa Sb l3 n l4 l5 = some r → V cX5_isTrueOf RX5 5 153 7 G Γ [(o, S), (oa, Sa), (ob, Sb)] 126 [(4, .int r)] [] → V cX5_isTrueOf RX5 5 153 7 G Γ [(o, S), (oa, Sa), (ob, Sb)] 6 [(0, .ref (wA G o 0)), (1, .ref (wA G oa 0)), (2, .ref (wA G ob 0)), (3, .int l3), (4, .int l4), (5, .int l5)] [] := by
  intro n
  induction n with
  | zero => intro l4 l5 r hf hx; unfold pX5_isTrueOf_l6 at hf; cases hf
  | succ n ih =>
    intro l4 l5 r hf hx
    have hrec : ∀ {l4 : Int32} {l5 : Int32}, pX5_isTrueOf_l6  S Sa Sb l3 n l4 l5 = some r → V cX5_isTrueOf RX5 5 153 7 G Γ [(o, S), (oa, Sa), (ob, Sb)] 6 [(0, .ref (wA G o 0)), (1, .ref (wA G oa 0)), (2, .ref (wA G ob 0)), (3, .int l3), (4, .int l4), (5, .int l5)] [] := fun h => ih h hx
    clear ih
    unfold pX5_isTrueOf_l6 at hf
    refine v_iload (pc := 6) 5 dX5_isTrueOf_6 rfl ?_
    refine v_aload_n (pc := 8) 0 dX5_isTrueOf_8 rfl ?_
    refine gf_RX5_24 (pc := 9) 0 rfl hk0 dX5_isTrueOf_9 ?_
    refine v_icmp_ge (pc := 12) 126 dX5_isTrueOf_12 (by decide) (fun c1 => ?_) (fun c1 => ?_)
    · replace hf := it_t c1 hf
      have hf2 := Option.some.inj hf; subst hf2
      exact V_sub [4] rfl hx
    · replace hf := it_f c1 hf
      refine v_iload (pc := 15) 4 dX5_isTrueOf_15 rfl ?_
      refine v_iconst (pc := 17) (1 : Int32) dX5_isTrueOf_17 ci_1 ?_
      refine v_iand (pc := 18) dX5_isTrueOf_18 ?_
      refine v_istore (pc := 19) [(6, _), (0, _), (1, _), (2, _), (3, _), (4, _), (5, _)] dX5_isTrueOf_19 (Nat.le_of_ble_eq_true rfl) rfl ?_
      refine v_aload_n (pc := 21) 1 dX5_isTrueOf_21 rfl ?_
      refine gf_RX5_13 (pc := 22) 0 rfl hk0 dX5_isTrueOf_22 ?_
      refine v_iload (pc := 25) 6 dX5_isTrueOf_25 rfl ?_
      replace hf := gd_some hf; obtain ⟨g2, hf⟩ := hf
      refine al_X5_0 (pc := 27) _ 0 rfl hk0 rfl g2 dX5_isTrueOf_27 ?_
      refine V_gete (pc := 28) 13 "NOT" (by decide) rfl wf_RX5_84 dX5_isTrueOf_28 ?_
      replace hf := gd_some hf; obtain ⟨g3, hf⟩ := hf
      refine v_acmp_ne (pc := 31) g3 rfl 43 dX5_isTrueOf_31 (by decide) (fun c4 => ?_) (fun c4 => ?_)
      · replace hf := it_f c4 hf
        refine v_aload_n (pc := 43) 1 dX5_isTrueOf_43 rfl ?_
        refine gf_RX5_13 (pc := 44) 0 rfl hk0 dX5_isTrueOf_44 ?_
        refine v_iload (pc := 47) 6 dX5_isTrueOf_47 rfl ?_
        replace hf := gd_some hf; obtain ⟨g5, hf⟩ := hf
        refine al_X5_0 (pc := 49) _ 0 rfl hk0 rfl g5 dX5_isTrueOf_49 ?_
        refine V_gete (pc := 50) 12 "AND" (by decide) rfl wf_RX5_64 dX5_isTrueOf_50 ?_
        replace hf := gd_some hf; obtain ⟨g6, hf⟩ := hf
        refine v_acmp_ne (pc := 53) g6 rfl 71 dX5_isTrueOf_53 (by decide) (fun c7 => ?_) (fun c7 => ?_)
        · replace hf := it_f c7 hf
          refine v_aload_n (pc := 71) 1 dX5_isTrueOf_71 rfl ?_
          refine gf_RX5_13 (pc := 72) 0 rfl hk0 dX5_isTrueOf_72 ?_
          refine v_iload (pc := 75) 6 dX5_isTrueOf_75 rfl ?_
          replace hf := gd_some hf; obtain ⟨g8, hf⟩ := hf
          refine al_X5_0 (pc := 77) _ 0 rfl hk0 rfl g8 dX5_isTrueOf_77 ?_
          refine V_gete (pc := 78) 11 "OR" (by decide) rfl wf_RX5_67 dX5_isTrueOf_78 ?_
          replace hf := gd_some hf; obtain ⟨g9, hf⟩ := hf
          refine v_acmp_ne (pc := 81) g9 rfl 96 dX5_isTrueOf_81 (by decide) (fun c10 => ?_) (fun c10 => ?_)
          · replace hf := it_f c10 hf
            refine v_iload (pc := 96) 5 dX5_isTrueOf_96 rfl ?_
            refine v_iconst (pc := 98) (1 : Int32) dX5_isTrueOf_98 ci_1 ?_
            refine v_ishl (pc := 99) dX5_isTrueOf_99 ?_
            refine v_aload_n (pc := 100) 1 dX5_isTrueOf_100 rfl ?_
            refine v_aload_n (pc := 101) 2 dX5_isTrueOf_101 rfl ?_
            refine v_aload_n (pc := 102) 3 dX5_isTrueOf_102 rfl ?_
            refine v_iload_n (pc := 103) 4 dX5_isTrueOf_103 rfl ?_
            refine v_iload (pc := 104) 6 dX5_isTrueOf_104 rfl ?_
            replace hf := bd_some hf; obtain ⟨r11, h12, hf⟩ := hf
            refine V_call (pc := 106) (us1 := [_, _, _]) [0, 1, 2] 0 (kX5_isPlainTrue (o := o) (oa := oa) (ob := ob) hk0 hk1 hk2 h12) rfl rfl rfl rfl rfl hk0 (Nat.le_of_ble_eq_true rfl) rfl rfl rfl wm_RX5_144 md_X5_isPlainTrue (Nat.le_of_ble_eq_true rfl) (Nat.le_of_ble_eq_true rfl) rfl rfl (Nat.le_of_ble_eq_true rfl) dX5_isTrueOf_106 ?_
            refine v_if_eq (pc := 109) 116 dX5_isTrueOf_109 (by decide) (fun c13 => ?_) (fun c13 => ?_)
            · replace hf := it_t c13 hf
              refine v_iconst (pc := 116) (0 : Int32) dX5_isTrueOf_116 ci_0 ?_
              refine v_ior (pc := 117) dX5_isTrueOf_117 ?_
              refine v_istore (pc := 118) [(4, _), (6, _), (0, _), (1, _), (2, _), (3, _), (5, _)] dX5_isTrueOf_118 (Nat.le_of_ble_eq_true rfl) rfl ?_
              refine v_iinc (pc := 120) 6 (l5 + (1 : Int32)) [(5, _), (4, _), (6, _), (0, _), (1, _), (2, _), (3, _)] dX5_isTrueOf_120 rfl (congrArg (fun z => _ + z) ci_1) (Nat.le_of_ble_eq_true rfl) rfl ?_
              refine v_goto (pc := 123) 6 dX5_isTrueOf_123 (by decide) ?_
              exact V_sub [3, 4, 5, 6, 1, 0] rfl (hrec hf)
            · replace hf := it_f c13 hf
              refine v_iconst (pc := 112) (1 : Int32) dX5_isTrueOf_112 ci_1 ?_
              refine v_goto (pc := 113) 117 dX5_isTrueOf_113 (by decide) ?_
              refine v_ior (pc := 117) dX5_isTrueOf_117 ?_
              refine v_istore (pc := 118) [(4, _), (6, _), (0, _), (1, _), (2, _), (3, _), (5, _)] dX5_isTrueOf_118 (Nat.le_of_ble_eq_true rfl) rfl ?_
              refine v_iinc (pc := 120) 6 (l5 + (1 : Int32)) [(5, _), (4, _), (6, _), (0, _), (1, _), (2, _), (3, _)] dX5_isTrueOf_120 rfl (congrArg (fun z => _ + z) ci_1) (Nat.le_of_ble_eq_true rfl) rfl ?_
              refine v_goto (pc := 123) 6 dX5_isTrueOf_123 (by decide) ?_
              exact V_sub [3, 4, 5, 6, 1, 0] rfl (hrec hf)
          · replace hf := it_t c10 hf
            refine v_iload (pc := 84) 5 dX5_isTrueOf_84 rfl ?_
            refine v_iconst (pc := 86) (1 : Int32) dX5_isTrueOf_86 ci_1 ?_
            refine v_ishr (pc := 87) dX5_isTrueOf_87 ?_
            refine v_iload (pc := 88) 0 dX5_isTrueOf_88 rfl ?_
            refine v_ior (pc := 90) dX5_isTrueOf_90 ?_
            refine v_istore (pc := 91) [(4, _), (6, _), (0, _), (1, _), (2, _), (3, _), (5, _)] dX5_isTrueOf_91 (Nat.le_of_ble_eq_true rfl) rfl ?_
            refine v_goto (pc := 93) 120 dX5_isTrueOf_93 (by decide) ?_
            refine v_iinc (pc := 120) 6 (l5 + (1 : Int32)) [(5, _), (4, _), (6, _), (0, _), (1, _), (2, _), (3, _)] dX5_isTrueOf_120 rfl (congrArg (fun z => _ + z) ci_1) (Nat.le_of_ble_eq_true rfl) rfl ?_
            refine v_goto (pc := 123) 6 dX5_isTrueOf_123 (by decide) ?_
            exact V_sub [3, 4, 5, 6, 1, 0] rfl (hrec hf)
        · replace hf := it_t c7 hf
          refine v_iload (pc := 56) 5 dX5_isTrueOf_56 rfl ?_
          refine v_iconst (pc := 58) (1 : Int32) dX5_isTrueOf_58 ci_1 ?_
          refine v_ishr (pc := 59) dX5_isTrueOf_59 ?_
          refine v_iload (pc := 60) 0 dX5_isTrueOf_60 rfl ?_
          refine v_bipush (pc := 62) (-2 : Int32) dX5_isTrueOf_62 cb_m2 ?_
          refine v_ior (pc := 64) dX5_isTrueOf_64 ?_
          refine v_iand (pc := 65) dX5_isTrueOf_65 ?_
          refine v_istore (pc := 66) [(4, _), (6, _), (0, _), (1, _), (2, _), (3, _), (5, _)] dX5_isTrueOf_66 (Nat.le_of_ble_eq_true rfl) rfl ?_
          refine v_goto (pc := 68) 120 dX5_isTrueOf_68 (by decide) ?_
          refine v_iinc (pc := 120) 6 (l5 + (1 : Int32)) [(5, _), (4, _), (6, _), (0, _), (1, _), (2, _), (3, _)] dX5_isTrueOf_120 rfl (congrArg (fun z => _ + z) ci_1) (Nat.le_of_ble_eq_true rfl) rfl ?_
          refine v_goto (pc := 123) 6 dX5_isTrueOf_123 (by decide) ?_
          exact V_sub [3, 4, 5, 6, 1, 0] rfl (hrec hf)
      · replace hf := it_t c4 hf
        refine v_iload (pc := 34) 5 dX5_isTrueOf_34 rfl ?_
        refine v_iconst (pc := 36) (1 : Int32) dX5_isTrueOf_36 ci_1 ?_
        refine v_ixor (pc := 37) dX5_isTrueOf_37 ?_
        refine v_istore (pc := 38) [(4, _), (6, _), (0, _), (1, _), (2, _), (3, _), (5, _)] dX5_isTrueOf_38 (Nat.le_of_ble_eq_true rfl) rfl ?_
        refine v_goto (pc := 40) 120 dX5_isTrueOf_40 (by decide) ?_
        refine v_iinc (pc := 120) 6 (l5 + (1 : Int32)) [(5, _), (4, _), (6, _), (0, _), (1, _), (2, _), (3, _)] dX5_isTrueOf_120 rfl (congrArg (fun z => _ + z) ci_1) (Nat.le_of_ble_eq_true rfl) rfl ?_
        refine v_goto (pc := 123) 6 dX5_isTrueOf_123 (by decide) ?_
        exact V_sub [3, 4, 5, 6, 1, 0] rfl (hrec hf)
set_option maxRecDepth 20000 in
theorem kX5_isTrueOf {G : Wc} {o oa ob : Nat} {S : Ob} {Sa : Ob} {Sb : Ob} {c : Int32} {r : Int32} (hk0 : kd o = 5) (hk1 : kd oa = 4) (hk2 : kd ob = 6) (hf : pX5_isTrueOf S Sa Sb  c = some r) : Cn yX5_isTrueOf cX5_isTrueOf 7 (some .boolean) 5 153 G [.ref (wA G o 0), .ref (wA G oa 0), .ref (wA G ob 0), .int c] [(o, S), (oa, Sa), (ob, Sb)] [(o, S), (oa, Sa), (ob, Sb)] (some (.int r)) := by
  refine V_method [(0, .ref (wA G o 0)), (1, .ref (wA G oa 0)), (2, .ref (wA G ob 0)), (3, .int c)] (by decide) rfl (Nat.le_of_ble_eq_true rfl) rfl (fun Γ hF => ?_)
  unfold pX5_isTrueOf at hf
  refine v_iconst (pc := 0) (0 : Int32) dX5_isTrueOf_0 ci_0 ?_
  refine v_istore (pc := 1) [(4, _), (0, _), (1, _), (2, _), (3, _)] dX5_isTrueOf_1 (Nat.le_of_ble_eq_true rfl) rfl ?_
  refine v_iconst (pc := 3) (0 : Int32) dX5_isTrueOf_3 ci_0 ?_
  refine v_istore (pc := 4) [(5, _), (4, _), (0, _), (1, _), (2, _), (3, _)] dX5_isTrueOf_4 (Nat.le_of_ble_eq_true rfl) rfl ?_
  replace hf := bd_some hf; obtain ⟨r14, h15, hf⟩ := hf
  refine V_sub [2, 3, 4, 5, 1, 0] rfl (wX5_isTrueOf_l6 hk0 hk1 hk2 fu h15 ?_)
  refine v_iload (pc := 126) 0 dX5_isTrueOf_126 rfl ?_
  refine v_iconst (pc := 128) (1 : Int32) dX5_isTrueOf_128 ci_1 ?_
  refine v_iand (pc := 129) dX5_isTrueOf_129 ?_
  refine v_iconst (pc := 130) (1 : Int32) dX5_isTrueOf_130 ci_1 ?_
  refine v_icmp_ne (pc := 131) 138 dX5_isTrueOf_131 (by decide) (fun c16 => ?_) (fun c16 => ?_)
  · replace hf := it_f c16 hf
    refine v_iconst (pc := 138) (0 : Int32) dX5_isTrueOf_138 ci_0 ?_
    have hf2 := Option.some.inj hf; subst hf2
    exact V_zret (pc := 139) hF rfl dX5_isTrueOf_139
  · replace hf := it_t c16 hf
    refine v_iconst (pc := 134) (1 : Int32) dX5_isTrueOf_134 ci_1 ?_
    refine v_goto (pc := 135) 139 dX5_isTrueOf_135 (by decide) ?_
    have hf2 := Option.some.inj hf; subst hf2
    exact V_zret (pc := 139) hF rfl dX5_isTrueOf_139
set_option maxRecDepth 20000 in
theorem wX6_endsWith_l21 {G : Wc} {Γ : Cx} {o bu : Nat} {ba bk bj bn : Nat} {bf : Nat → Int32} {S : Ob} {bS : Ob} {l1 : Int32} {l3 : Int32} {r : Int32} (hk0 : kd o = 6) (hk1 : kd bu = bk) (hq1 : bk < 12) (hc1 : (uc G bu bk bS)[bj]? = some (ba, .inl (wT G 0, bn, .inl bf))) (hF : Fnl G Γ (some .boolean) (some (.int r)) (ov Γ.2.2.2 [(o, S), (bu, bS)])) : ∀ (n : Nat) {l4 : Int32}, pX6_endsWith_l21  S bf bn l1 l3 n l4 = some r → V cX6_endsWith RX6 2 82 5 G Γ [(o, S), (bu, bS)] 21 [(0, .ref (wA G o 0)), (1, .int l1), (2, .ref ba), (3, .int l3), (4, .int l4)] [] := by
  intro n
  induction n with
  | zero => intro l4 hf; unfold pX6_endsWith_l21 at hf; cases hf
  | succ n ih =>
    intro l4 hf
    have hrec : ∀ {l4 : Int32}, pX6_endsWith_l21  S bf bn l1 l3 n l4 = some r → V cX6_endsWith RX6 2 82 5 G Γ [(o, S), (bu, bS)] 21 [(0, .ref (wA G o 0)), (1, .int l1), (2, .ref ba), (3, .int l3), (4, .int l4)] [] := fun h => ih h
    clear ih
    unfold pX6_endsWith_l21 at hf
    refine v_iload (pc := 21) 4 dX6_endsWith_21 rfl ?_
    refine v_iload_n (pc := 23) 3 dX6_endsWith_23 rfl ?_
    refine v_icmp_ge (pc := 24) 58 dX6_endsWith_24 (by decide) (fun c4 => ?_) (fun c4 => ?_)
    · replace hf := it_t c4 hf
      refine v_iconst (pc := 58) (1 : Int32) dX6_endsWith_58 ci_1 ?_
      have hf2 := Option.some.inj hf; subst hf2
      exact V_zret (pc := 59) hF rfl dX6_endsWith_59
    · replace hf := it_f c4 hf
      refine v_aload_n (pc := 27) 2 dX6_endsWith_27 rfl ?_
      refine v_iload (pc := 28) 4 dX6_endsWith_28 rfl ?_
      replace hf := gd_some hf; obtain ⟨g5, hf⟩ := hf
      refine V_iald (pc := 30) 1 _ rfl hk1 hq1 hc1 g5 dX6_endsWith_30 ?_
      refine v_aload_n (pc := 31) 0 dX6_endsWith_31 rfl ?_
      refine v_iload_n (pc := 32) 1 dX6_endsWith_32 rfl ?_
      refine v_aload_n (pc := 33) 0 dX6_endsWith_33 rfl ?_
      refine gf_RX6_15 (pc := 34) 0 rfl hk0 dX6_endsWith_34 ?_
      refine v_iload_n (pc := 37) 1 dX6_endsWith_37 rfl ?_
      replace hf := gd_some hf; obtain ⟨g6, hf⟩ := hf
      refine al_X6_1 (pc := 38) _ 0 rfl hk0 rfl g6 dX6_endsWith_38 ?_
      refine v_iload_n (pc := 39) 3 dX6_endsWith_39 rfl ?_
      refine v_isub (pc := 40) dX6_endsWith_40 ?_
      refine v_iload (pc := 41) 4 dX6_endsWith_41 rfl ?_
      refine v_iadd (pc := 43) dX6_endsWith_43 ?_
      replace hf := bd_some hf; obtain ⟨r7, h8, hf⟩ := hf
      refine V_call (pc := 44) (us1 := [_, _]) [0] 0 (kX6_layerAt (o := o) hk0 h8) rfl rfl rfl rfl rfl hk0 (Nat.le_of_ble_eq_true rfl) rfl rfl rfl wm_RX6_55 md_X6_layerAt (Nat.le_of_ble_eq_true rfl) (Nat.le_of_ble_eq_true rfl) rfl rfl (Nat.le_of_ble_eq_true rfl) dX6_endsWith_44 ?_
      refine v_icmp_eq (pc := 47) 52 dX6_endsWith_47 (by decide) (fun c9 => ?_) (fun c9 => ?_)
      · replace hf := it_t c9 hf
        refine v_iinc (pc := 52) 4 (l4 + (1 : Int32)) [(4, _), (0, _), (1, _), (2, _), (3, _)] dX6_endsWith_52 rfl (congrArg (fun z => _ + z) ci_1) (Nat.le_of_ble_eq_true rfl) rfl ?_
        refine v_goto (pc := 55) 21 dX6_endsWith_55 (by decide) ?_
        exact V_sub [1, 2, 3, 4, 0] rfl (hrec hf)
      · replace hf := it_f c9 hf
        refine v_iconst (pc := 50) (0 : Int32) dX6_endsWith_50 ci_0 ?_
        have hf2 := Option.some.inj hf; subst hf2
        exact V_zret (pc := 51) hF rfl dX6_endsWith_51
set_option maxRecDepth 20000 in
theorem kX6_endsWith {G : Wc} {o bu : Nat} {ba bk bj bn : Nat} {bf : Nat → Int32} {S : Ob} {bS : Ob} {a : Int32} {c : Int32} {r : Int32} (hk0 : kd o = 6) (hk1 : kd bu = bk) (hq1 : bk < 12) (hc1 : (uc G bu bk bS)[bj]? = some (ba, .inl (wT G 0, bn, .inl bf))) (hf : pX6_endsWith S bf bn a c = some r) : Cn yX6_endsWith cX6_endsWith 5 (some .boolean) 2 82 G [.ref (wA G o 0), .int a, .ref ba, .int c] [(o, S), (bu, bS)] [(o, S), (bu, bS)] (some (.int r)) := by
  refine V_method [(0, .ref (wA G o 0)), (1, .int a), (2, .ref ba), (3, .int c)] (by decide) rfl (Nat.le_of_ble_eq_true rfl) rfl (fun Γ hF => ?_)
  unfold pX6_endsWith at hf
  refine v_iload_n (pc := 0) 3 dX6_endsWith_0 rfl ?_
  refine v_aload_n (pc := 1) 0 dX6_endsWith_1 rfl ?_
  refine gf_RX6_15 (pc := 2) 0 rfl hk0 dX6_endsWith_2 ?_
  refine v_iload_n (pc := 5) 1 dX6_endsWith_5 rfl ?_
  replace hf := gd_some hf; obtain ⟨g1, hf⟩ := hf
  refine al_X6_1 (pc := 6) _ 0 rfl hk0 rfl g1 dX6_endsWith_6 ?_
  refine v_icmp_gt (pc := 7) 16 dX6_endsWith_7 (by decide) (fun c2 => ?_) (fun c2 => ?_)
  · replace hf := it_t c2 hf
    refine v_iconst (pc := 16) (0 : Int32) dX6_endsWith_16 ci_0 ?_
    have hf2 := Option.some.inj hf; subst hf2
    exact V_zret (pc := 17) hF rfl dX6_endsWith_17
  · replace hf := it_f c2 hf
    refine v_iload_n (pc := 10) 3 dX6_endsWith_10 rfl ?_
    refine v_aload_n (pc := 11) 2 dX6_endsWith_11 rfl ?_
    refine V_alen (pc := 12) _ 1 _ rfl hk1 hq1 hc1 rfl rfl dX6_endsWith_12 ?_
    refine v_icmp_le (pc := 13) 18 dX6_endsWith_13 (by decide) (fun c3 => ?_) (fun c3 => ?_)
    · replace hf := it_t c3 hf
      refine v_iconst (pc := 18) (0 : Int32) dX6_endsWith_18 ci_0 ?_
      refine v_istore (pc := 19) [(4, _), (0, _), (1, _), (2, _), (3, _)] dX6_endsWith_19 (Nat.le_of_ble_eq_true rfl) rfl ?_
      exact V_sub [1, 2, 3, 4, 0] rfl (wX6_endsWith_l21 hk0 hk1 hq1 hc1 hF fu hf)
    · replace hf := it_f c3 hf
      refine v_iconst (pc := 16) (0 : Int32) dX6_endsWith_16 ci_0 ?_
      have hf2 := Option.some.inj hf; subst hf2
      exact V_zret (pc := 17) hF rfl dX6_endsWith_17
