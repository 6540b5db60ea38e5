set_option maxRecDepth 20000 in
theorem kX11_thrown {G : Wc} {o : Nat} {S : Ob}  {r : Int32} (hk0 : kd o = 10) (hf : pX11_thrown S   = some r) : Cn yX11_thrown cX11_thrown 1 (some .int) 1 60 G [.ref (wA G o 0)] [(o, S)] [(o, S)] (some (.int r)) := by
  refine V_method [(0, .ref (wA G o 0))] (by decide) rfl (Nat.le_of_ble_eq_true rfl) rfl (fun Γ hF => ?_)
  unfold pX11_thrown at hf
  refine v_aload_n (pc := 0) 0 dX11_thrown_0 rfl ?_
  refine gf_RX11_1 (pc := 1) 0 rfl hk0 dX11_thrown_1 ?_
  have hf2 := Option.some.inj hf; subst hf2
  exact V_iret (pc := 4) hF dX11_thrown_4
set_option maxRecDepth 20000 in
theorem kX11_throwsIf {G : Wc} {o : Nat} {S : Ob} {a : Int32} {r : Int32 × Ob} (hk0 : kd o = 10) (hf : pX11_throwsIf S  a = some r) : Cn yX11_throwsIf cX11_throwsIf 2 (some .boolean) 1 60 G [.ref (wA G o 0), .int a] [(o, S)] [(o, r.2)] (some (.int r.1)) := by
  refine V_method [(0, .ref (wA G o 0)), (1, .int a)] (by decide) rfl (Nat.le_of_ble_eq_true rfl) rfl (fun Γ hF => ?_)
  unfold pX11_throwsIf at hf
  refine v_aload_n (pc := 0) 0 dX11_throwsIf_0 rfl ?_
  refine v_iload_n (pc := 1) 1 dX11_throwsIf_1 rfl ?_
  refine v_if_eq (pc := 2) 9 dX11_throwsIf_2 (by decide) (fun c1 => ?_) (fun c1 => ?_)
  · replace hf := it_t c1 hf
    refine v_iconst (pc := 9) (0 : Int32) dX11_throwsIf_9 ci_0 ?_
    refine pf_RX11_1 (pc := 10) [_] 0 rfl hk0 rfl dX11_throwsIf_10 ?_
    refine v_iload_n (pc := 13) 1 dX11_throwsIf_13 rfl ?_
    replace hf := gd_some hf; obtain ⟨g2, hf⟩ := hf
    have hf2 := Option.some.inj hf; subst hf2
    exact V_zret (pc := 14) hF g2 dX11_throwsIf_14
  · replace hf := it_f c1 hf
    refine v_iconst (pc := 5) (1 : Int32) dX11_throwsIf_5 ci_1 ?_
    refine v_goto (pc := 6) 10 dX11_throwsIf_6 (by decide) ?_
    refine pf_RX11_1 (pc := 10) [_] 0 rfl hk0 rfl dX11_throwsIf_10 ?_
    refine v_iload_n (pc := 13) 1 dX11_throwsIf_13 rfl ?_
    replace hf := gd_some hf; obtain ⟨g3, hf⟩ := hf
    have hf2 := Option.some.inj hf; subst hf2
    exact V_zret (pc := 14) hF g3 dX11_throwsIf_14
set_option maxRecDepth 20000 in
theorem wX11_four_l3 {G : Wc} {Γ : Cx} {o : Nat} {l1 : Int32} (hk0 : kd o = 10) : ∀ (n : Nat) {l2 : Int32} {S : Ob} {r : Ob}, pX11_four_l3  l1 n l2 S = some r → V cX11_four RX11 1 60 3 G Γ [(o, r)] 36 [] [] → V cX11_four RX11 1 60 3 G Γ [(o, S)] 3 [(0, .ref (wA G o 0)), (1, .int l1), (2, .int l2)] [] := by
  intro n
  induction n with
  | zero => intro l2 S r hf hx; unfold pX11_four_l3 at hf; cases hf
  | succ n ih =>
    intro l2 S r hf hx
    have hrec : ∀ {l2 : Int32} {S : Ob}, pX11_four_l3  l1 n l2 S = some r → V cX11_four RX11 1 60 3 G Γ [(o, S)] 3 [(0, .ref (wA G o 0)), (1, .int l1), (2, .int l2)] [] := fun h => ih h hx
    clear ih
    unfold pX11_four_l3 at hf
    refine v_iload_n (pc := 3) 2 dX11_four_3 rfl ?_
    refine v_if_lt (pc := 4) 36 dX11_four_4 (by decide) (fun c1 => ?_) (fun c1 => ?_)
    · replace hf := it_t c1 hf
      have hf2 := Option.some.inj hf; subst hf2
      exact V_sub [] rfl hx
    · replace hf := it_f c1 hf
      refine v_aload_n (pc := 7) 0 dX11_four_7 rfl ?_
      refine gf_RX11_14 (pc := 8) 0 rfl hk0 dX11_four_8 ?_
      refine v_aload_n (pc := 11) 0 dX11_four_11 rfl ?_
      refine gf_RX11_7 (pc := 12) 0 rfl hk0 dX11_four_12 ?_
      refine v_iload_n (pc := 15) 1 dX11_four_15 rfl ?_
      refine v_iload_n (pc := 16) 2 dX11_four_16 rfl ?_
      refine v_ishr (pc := 17) dX11_four_17 ?_
      refine v_i2b (pc := 18) dX11_four_18 ?_
      replace hf := gd_some hf; obtain ⟨g2, hf⟩ := hf
      refine as_X11_1 (pc := 19) [_] _ 0 rfl hk0 rfl g2 rfl dX11_four_19 ?_
      refine v_aload_n (pc := 20) 0 dX11_four_20 rfl ?_
      refine v_dup (pc := 21) dX11_four_21 rfl ?_
      refine gf_RX11_7 (pc := 22) 0 rfl hk0 dX11_four_22 ?_
      refine v_iconst (pc := 25) (1 : Int32) dX11_four_25 ci_1 ?_
      refine v_iadd (pc := 26) dX11_four_26 ?_
      refine pf_RX11_7 (pc := 27) [_] 0 rfl hk0 rfl dX11_four_27 ?_
      refine v_iinc (pc := 30) 2 (l2 + (-8 : Int32)) [(2, _), (0, _), (1, _)] dX11_four_30 rfl (congrArg (fun z => _ + z) ci_m8) (Nat.le_of_ble_eq_true rfl) rfl ?_
      refine v_goto (pc := 33) 3 dX11_four_33 (by decide) ?_
      exact V_sub [1, 2, 0] rfl (hrec hf)
set_option maxRecDepth 20000 in
theorem kX11_four {G : Wc} {o : Nat} {S : Ob} {a : Int32} {r : Ob} (hk0 : kd o = 10) (hf : pX11_four S  a = some r) : Cn yX11_four cX11_four 3 (none) 1 60 G [.ref (wA G o 0), .int a] [(o, S)] [(o, r)] none := by
  refine V_method [(0, .ref (wA G o 0)), (1, .int a)] (by decide) rfl (Nat.le_of_ble_eq_true rfl) rfl (fun Γ hF => ?_)
  unfold pX11_four at hf
  refine v_bipush (pc := 0) (24 : Int32) dX11_four_0 cb_24 ?_
  refine v_istore_n (pc := 2) [(2, _), (0, _), (1, _)] dX11_four_2 (Nat.le_of_ble_eq_true rfl) rfl ?_
  replace hf := bd_some hf; obtain ⟨r3, h4, hf⟩ := hf
  refine V_sub [1, 2, 0] rfl (wX11_four_l3 hk0 fu h4 ?_)
  have hf2 := Option.some.inj hf; subst hf2
  exact V_vret (pc := 36) hF dX11_four_36
set_option maxRecDepth 20000 in
theorem kX11_feed {G : Wc} {o : Nat} {S : Ob} {a : Int32} {b : Int32} {c : Int32} {d : Int32} {e : Int32} {r : Int32 × Ob} (hk0 : kd o = 10) (hf : pX11_feed S  a b c d e = some r) : Cn yX11_feed cX11_feed 6 (some .int) 2 82 G [.ref (wA G o 0), .int a, .int b, .int c, .int d, .int e] [(o, S)] [(o, r.2)] (some (.int r.1)) := by
  refine V_method [(0, .ref (wA G o 0)), (1, .int a), (2, .int b), (3, .int c), (4, .int d), (5, .int e)] (by decide) rfl (Nat.le_of_ble_eq_true rfl) rfl (fun Γ hF => ?_)
  unfold pX11_feed at hf
  refine v_aload_n (pc := 0) 0 dX11_feed_0 rfl ?_
  refine v_iconst (pc := 1) (0 : Int32) dX11_feed_1 ci_0 ?_
  refine pf_RX11_1 (pc := 2) [_] 0 rfl hk0 rfl dX11_feed_2 ?_
  refine v_aload_n (pc := 5) 0 dX11_feed_5 rfl ?_
  refine gf_RX11_7 (pc := 6) 0 rfl hk0 dX11_feed_6 ?_
  refine v_bipush (pc := 9) (20 : Int32) dX11_feed_9 cb_20 ?_
  refine v_iadd (pc := 11) dX11_feed_11 ?_
  refine v_sipush (pc := 12) (940 : Int32) dX11_feed_12 cs_940 ?_
  refine v_icmp_le (pc := 15) 20 dX11_feed_15 (by decide) (fun c1 => ?_) (fun c1 => ?_)
  · replace hf := it_t c1 hf
    refine v_aload_n (pc := 20) 0 dX11_feed_20 rfl ?_
    refine v_iload_n (pc := 21) 1 dX11_feed_21 rfl ?_
    replace hf := bd_some hf; obtain ⟨r2, h3, hf⟩ := hf
    refine V_call (pc := 22) (us1 := [_]) [0] 0 (kX11_four (o := o) hk0 h3) rfl rfl rfl rfl rfl hk0 (Nat.le_of_ble_eq_true rfl) rfl rfl rfl wm_RX11_10 md_X11_four (Nat.le_of_ble_eq_true rfl) (Nat.le_of_ble_eq_true rfl) rfl rfl (Nat.le_of_ble_eq_true rfl) dX11_feed_22 ?_
    refine v_aload_n (pc := 25) 0 dX11_feed_25 rfl ?_
    refine v_iload_n (pc := 26) 2 dX11_feed_26 rfl ?_
    replace hf := bd_some hf; obtain ⟨r4, h5, hf⟩ := hf
    refine V_call (pc := 27) (us1 := [_]) [0] 0 (kX11_four (o := o) hk0 h5) rfl rfl rfl rfl rfl hk0 (Nat.le_of_ble_eq_true rfl) rfl rfl rfl wm_RX11_10 md_X11_four (Nat.le_of_ble_eq_true rfl) (Nat.le_of_ble_eq_true rfl) rfl rfl (Nat.le_of_ble_eq_true rfl) dX11_feed_27 ?_
    refine v_aload_n (pc := 30) 0 dX11_feed_30 rfl ?_
    refine v_iload_n (pc := 31) 3 dX11_feed_31 rfl ?_
    replace hf := bd_some hf; obtain ⟨r6, h7, hf⟩ := hf
    refine V_call (pc := 32) (us1 := [_]) [0] 0 (kX11_four (o := o) hk0 h7) rfl rfl rfl rfl rfl hk0 (Nat.le_of_ble_eq_true rfl) rfl rfl rfl wm_RX11_10 md_X11_four (Nat.le_of_ble_eq_true rfl) (Nat.le_of_ble_eq_true rfl) rfl rfl (Nat.le_of_ble_eq_true rfl) dX11_feed_32 ?_
    refine v_aload_n (pc := 35) 0 dX11_feed_35 rfl ?_
    refine v_iload (pc := 36) 4 dX11_feed_36 rfl ?_
    replace hf := bd_some hf; obtain ⟨r8, h9, hf⟩ := hf
    refine V_call (pc := 38) (us1 := [_]) [0] 0 (kX11_four (o := o) hk0 h9) rfl rfl rfl rfl rfl hk0 (Nat.le_of_ble_eq_true rfl) rfl rfl rfl wm_RX11_10 md_X11_four (Nat.le_of_ble_eq_true rfl) (Nat.le_of_ble_eq_true rfl) rfl rfl (Nat.le_of_ble_eq_true rfl) dX11_feed_38 ?_
    refine v_aload_n (pc := 41) 0 dX11_feed_41 rfl ?_
    refine v_iload (pc := 42) 5 dX11_feed_42 rfl ?_
    replace hf := bd_some hf; obtain ⟨r10, h11, hf⟩ := hf
    refine V_call (pc := 44) (us1 := [_]) [0] 0 (kX11_four (o := o) hk0 h11) rfl rfl rfl rfl rfl hk0 (Nat.le_of_ble_eq_true rfl) rfl rfl rfl wm_RX11_10 md_X11_four (Nat.le_of_ble_eq_true rfl) (Nat.le_of_ble_eq_true rfl) rfl rfl (Nat.le_of_ble_eq_true rfl) dX11_feed_44 ?_
    refine v_aload_n (pc := 47) 0 dX11_feed_47 rfl ?_
    refine gf_RX11_7 (pc := 48) 0 rfl hk0 dX11_feed_48 ?_
    have hf2 := Option.some.inj hf; subst hf2
    exact V_iret (pc := 51) hF dX11_feed_51
  · replace hf := it_f c1 hf
    refine v_iconst (pc := 18) (-1 : Int32) dX11_feed_18 ci_m1 ?_
    have hf2 := Option.some.inj hf; subst hf2
    exact V_iret (pc := 19) hF dX11_feed_19
set_option maxRecDepth 20000 in
theorem kX11_end {G : Wc} {o : Nat} {S : Ob} {a : Int32} {r : Int32 × Ob} (hk0 : kd o = 10) (hf : pX11_end S  a = some r) : Cn yX11_end cX11_end 2 (some .boolean) 1 60 G [.ref (wA G o 0), .int a] [(o, S)] [(o, r.2)] (some (.int r.1)) := by
  refine V_method [(0, .ref (wA G o 0)), (1, .int a)] (by decide) rfl (Nat.le_of_ble_eq_true rfl) rfl (fun Γ hF => ?_)
  unfold pX11_end at hf
  refine v_aload_n (pc := 0) 0 dX11_end_0 rfl ?_
  refine v_iconst (pc := 1) (0 : Int32) dX11_end_1 ci_0 ?_
  refine pf_RX11_1 (pc := 2) [_] 0 rfl hk0 rfl dX11_end_2 ?_
  refine v_iload_n (pc := 5) 1 dX11_end_5 rfl ?_
  refine v_if_lt (pc := 6) 17 dX11_end_6 (by decide) (fun c1 => ?_) (fun c1 => ?_)
  · replace hf := it_t c1 hf
    refine v_iconst (pc := 17) (0 : Int32) dX11_end_17 ci_0 ?_
    have hf2 := Option.some.inj hf; subst hf2
    exact V_zret (pc := 18) hF rfl dX11_end_18
  · replace hf := it_f c1 hf
    refine v_iload_n (pc := 9) 1 dX11_end_9 rfl ?_
    refine v_aload_n (pc := 10) 0 dX11_end_10 rfl ?_
    refine gf_RX11_7 (pc := 11) 0 rfl hk0 dX11_end_11 ?_
    refine v_icmp_le (pc := 14) 19 dX11_end_14 (by decide) (fun c2 => ?_) (fun c2 => ?_)
    · replace hf := it_t c2 hf
      refine v_aload_n (pc := 19) 0 dX11_end_19 rfl ?_
      refine v_iload_n (pc := 20) 1 dX11_end_20 rfl ?_
      refine pf_RX11_7 (pc := 21) [_] 0 rfl hk0 rfl dX11_end_21 ?_
      refine v_iconst (pc := 24) (1 : Int32) dX11_end_24 ci_1 ?_
      have hf2 := Option.some.inj hf; subst hf2
      exact V_zret (pc := 25) hF rfl dX11_end_25
    · replace hf := it_f c2 hf
      refine v_iconst (pc := 17) (0 : Int32) dX11_end_17 ci_0 ?_
      have hf2 := Option.some.inj hf; subst hf2
      exact V_zret (pc := 18) hF rfl dX11_end_18
set_option maxRecDepth 20000 in
theorem kX11_taken {G : Wc} {o : Nat} {S : Ob} {a : Int32} {r : Ob} (hk0 : kd o = 10) (hf : pX11_taken S  a = some r) : Cn yX11_taken cX11_taken 2 (none) 1 60 G [.ref (wA G o 0), .int a] [(o, S)] [(o, r)] none := by
  refine V_method [(0, .ref (wA G o 0)), (1, .int a)] (by decide) rfl (Nat.le_of_ble_eq_true rfl) rfl (fun Γ hF => ?_)
  unfold pX11_taken at hf
  refine v_aload_n (pc := 0) 0 dX11_taken_0 rfl ?_
  refine v_aload_n (pc := 1) 0 dX11_taken_1 rfl ?_
  refine gf_RX11_7 (pc := 2) 0 rfl hk0 dX11_taken_2 ?_
  refine pf_RX11_18 (pc := 5) [_] 0 rfl hk0 rfl dX11_taken_5 ?_
  refine v_aload_n (pc := 8) 0 dX11_taken_8 rfl ?_
  refine v_iconst (pc := 9) (0 : Int32) dX11_taken_9 ci_0 ?_
  refine pf_RX11_7 (pc := 10) [_] 0 rfl hk0 rfl dX11_taken_10 ?_
  refine v_aload_n (pc := 13) 0 dX11_taken_13 rfl ?_
  refine v_iconst (pc := 14) (0 : Int32) dX11_taken_14 ci_0 ?_
  refine pf_RX11_21 (pc := 15) [_] 0 rfl hk0 rfl dX11_taken_15 ?_
  refine v_aload_n (pc := 18) 0 dX11_taken_18 rfl ?_
  refine v_iload_n (pc := 19) 1 dX11_taken_19 rfl ?_
  refine pf_RX11_24 (pc := 20) [_] 0 rfl hk0 rfl dX11_taken_20 ?_
  have hf2 := Option.some.inj hf; subst hf2
  exact V_vret (pc := 23) hF dX11_taken_23
set_option maxRecDepth 20000 in
theorem kX11_isIn {G : Wc}  {a : Int32} {b : Int32} {c : Int32} {r : Int32}  (hf : pX11_isIn   a b c = some r) : Cn yX11_isIn cX11_isIn 3 (some .boolean) 1 60 G [.int a, .int b, .int c] [] [] (some (.int r)) := by
  refine V_method [(0, .int a), (1, .int b), (2, .int c)] (by decide) rfl (Nat.le_of_ble_eq_true rfl) rfl (fun Γ hF => ?_)
  unfold pX11_isIn at hf
  refine v_iload_n (pc := 0) 0 dX11_isIn_0 rfl ?_
  refine v_iload_n (pc := 1) 1 dX11_isIn_1 rfl ?_
  refine v_icmp_lt (pc := 2) 14 dX11_isIn_2 (by decide) (fun c1 => ?_) (fun c1 => ?_)
  · replace hf := it_t c1 hf
    refine v_iconst (pc := 14) (0 : Int32) dX11_isIn_14 ci_0 ?_
    have hf2 := Option.some.inj hf; subst hf2
    exact V_zret (pc := 15) hF rfl dX11_isIn_15
  · replace hf := it_f c1 hf
    refine v_iload_n (pc := 5) 0 dX11_isIn_5 rfl ?_
    refine v_iload_n (pc := 6) 2 dX11_isIn_6 rfl ?_
    refine v_icmp_gt (pc := 7) 14 dX11_isIn_7 (by decide) (fun c2 => ?_) (fun c2 => ?_)
    · replace hf := it_t c2 hf
      refine v_iconst (pc := 14) (0 : Int32) dX11_isIn_14 ci_0 ?_
      have hf2 := Option.some.inj hf; subst hf2
      exact V_zret (pc := 15) hF rfl dX11_isIn_15
    · replace hf := it_f c2 hf
      refine v_iconst (pc := 10) (1 : Int32) dX11_isIn_10 ci_1 ?_
      refine v_goto (pc := 11) 15 dX11_isIn_11 (by decide) ?_
      have hf2 := Option.some.inj hf; subst hf2
      exact V_zret (pc := 15) hF rfl dX11_isIn_15
set_option maxRecDepth 20000 in
theorem kX11_bitOf {G : Wc}  {a : Int32} {b : Int32} {r : Int32}  (hf : pX11_bitOf   a b = some r) : Cn yX11_bitOf cX11_bitOf 2 (some .boolean) 1 60 G [.int a, .int b] [] [] (some (.int r)) := by
  refine V_method [(0, .int a), (1, .int b)] (by decide) rfl (Nat.le_of_ble_eq_true rfl) rfl (fun Γ hF => ?_)
  unfold pX11_bitOf at hf
  refine v_iload_n (pc := 0) 0 dX11_bitOf_0 rfl ?_
  refine v_iload_n (pc := 1) 1 dX11_bitOf_1 rfl ?_
  refine v_ishr (pc := 2) dX11_bitOf_2 ?_
  refine v_iconst (pc := 3) (1 : Int32) dX11_bitOf_3 ci_1 ?_
  refine v_iand (pc := 4) dX11_bitOf_4 ?_
  refine v_iconst (pc := 5) (1 : Int32) dX11_bitOf_5 ci_1 ?_
  refine v_icmp_ne (pc := 6) 13 dX11_bitOf_6 (by decide) (fun c1 => ?_) (fun c1 => ?_)
  · replace hf := it_f c1 hf
    refine v_iconst (pc := 13) (0 : Int32) dX11_bitOf_13 ci_0 ?_
    have hf2 := Option.some.inj hf; subst hf2
    exact V_zret (pc := 14) hF rfl dX11_bitOf_14
  · replace hf := it_t c1 hf
    refine v_iconst (pc := 9) (1 : Int32) dX11_bitOf_9 ci_1 ?_
    refine v_goto (pc := 10) 14 dX11_bitOf_10 (by decide) ?_
    have hf2 := Option.some.inj hf; subst hf2
    exact V_zret (pc := 14) hF rfl dX11_bitOf_14
set_option maxRecDepth 20000 in
theorem kX11_lesser {G : Wc}  {a : Int32} {b : Int32} {r : Int32}  (hf : pX11_lesser   a b = some r) : Cn yX11_lesser cX11_lesser 2 (some .int) 1 60 G [.int a, .int b] [] [] (some (.int r)) := by
  refine V_method [(0, .int a), (1, .int b)] (by decide) rfl (Nat.le_of_ble_eq_true rfl) rfl (fun Γ hF => ?_)
  unfold pX11_lesser at hf
  refine v_iload_n (pc := 0) 0 dX11_lesser_0 rfl ?_
  refine v_iload_n (pc := 1) 1 dX11_lesser_1 rfl ?_
  refine v_icmp_ge (pc := 2) 9 dX11_lesser_2 (by decide) (fun c1 => ?_) (fun c1 => ?_)
  · replace hf := it_t c1 hf
    refine v_iload_n (pc := 9) 1 dX11_lesser_9 rfl ?_
    have hf2 := Option.some.inj hf; subst hf2
    exact V_iret (pc := 10) hF dX11_lesser_10
  · replace hf := it_f c1 hf
    refine v_iload_n (pc := 5) 0 dX11_lesser_5 rfl ?_
    refine v_goto (pc := 6) 10 dX11_lesser_6 (by decide) ?_
    have hf2 := Option.some.inj hf; subst hf2
    exact V_iret (pc := 10) hF dX11_lesser_10
set_option maxRecDepth 20000 in
theorem kX11_greater {G : Wc}  {a : Int32} {b : Int32} {r : Int32}  (hf : pX11_greater   a b = some r) : Cn yX11_greater cX11_greater 2 (some .int) 1 60 G [.int a, .int b] [] [] (some (.int r)) := by
  refine V_method [(0, .int a), (1, .int b)] (by decide) rfl (Nat.le_of_ble_eq_true rfl) rfl (fun Γ hF => ?_)
  unfold pX11_greater at hf
  refine v_iload_n (pc := 0) 0 dX11_greater_0 rfl ?_
  refine v_iload_n (pc := 1) 1 dX11_greater_1 rfl ?_
  refine v_icmp_le (pc := 2) 9 dX11_greater_2 (by decide) (fun c1 => ?_) (fun c1 => ?_)
  · replace hf := it_t c1 hf
    refine v_iload_n (pc := 9) 1 dX11_greater_9 rfl ?_
    have hf2 := Option.some.inj hf; subst hf2
    exact V_iret (pc := 10) hF dX11_greater_10
  · replace hf := it_f c1 hf
    refine v_iload_n (pc := 5) 0 dX11_greater_5 rfl ?_
    refine v_goto (pc := 6) 10 dX11_greater_6 (by decide) ?_
    have hf2 := Option.some.inj hf; subst hf2
    exact V_iret (pc := 10) hF dX11_greater_10
set_option maxRecDepth 20000 in
theorem wX11_bits_l4 {G : Wc} {Γ : Cx}   : ∀ (n : Nat) {l1 : Int32} {l2 : Int32} {r : Int32}, pX11_bits_l4   n l1 l2 = some r → V cX11_bits RX11 1 60 3 G Γ [] 20 [(1, .int r)] [] → V cX11_bits RX11 1 60 3 G Γ [] 4 [(1, .int l1), (2, .int l2)] [] := by
  intro n
  induction n with
  | zero => intro l1 l2 r hf hx; unfold pX11_bits_l4 at hf; cases hf
  | succ n ih =>
    intro l1 l2 r hf hx
    have hrec : ∀ {l1 : Int32} {l2 : Int32}, pX11_bits_l4   n l1 l2 = some r → V cX11_bits RX11 1 60 3 G Γ [] 4 [(1, .int l1), (2, .int l2)] [] := fun h => ih h hx
    clear ih
    unfold pX11_bits_l4 at hf
    refine v_iload_n (pc := 4) 1 dX11_bits_4 rfl ?_
    refine v_if_eq (pc := 5) 20 dX11_bits_5 (by decide) (fun c1 => ?_) (fun c1 => ?_)
    · replace hf := it_t c1 hf
      have hf2 := Option.some.inj hf; subst hf2
      exact V_sub [0] rfl hx
    · replace hf := it_f c1 hf
      refine v_iinc (pc := 8) 0 (l1 + (1 : Int32)) [(1, _), (2, _)] dX11_bits_8 rfl (congrArg (fun z => _ + z) ci_1) (Nat.le_of_ble_eq_true rfl) rfl ?_
      refine v_iload_n (pc := 11) 1 dX11_bits_11 rfl ?_
      refine v_iload_n (pc := 12) 1 dX11_bits_12 rfl ?_
      refine v_iconst (pc := 13) (1 : Int32) dX11_bits_13 ci_1 ?_
      refine v_isub (pc := 14) dX11_bits_14 ?_
      refine v_iand (pc := 15) dX11_bits_15 ?_
      refine v_istore_n (pc := 16) [(2, _), (1, _)] dX11_bits_16 (Nat.le_of_ble_eq_true rfl) rfl ?_
      refine v_goto (pc := 17) 4 dX11_bits_17 (by decide) ?_
      exact V_sub [1, 0] rfl (hrec hf)
set_option maxRecDepth 20000 in
theorem kX11_bits {G : Wc}  {a : Int32} {r : Int32}  (hf : pX11_bits   a = some r) : Cn yX11_bits cX11_bits 3 (some .int) 1 60 G [.int a] [] [] (some (.int r)) := by
  refine V_method [(0, .int a)] (by decide) rfl (Nat.le_of_ble_eq_true rfl) rfl (fun Γ hF => ?_)
  unfold pX11_bits at hf
  refine v_iconst (pc := 0) (0 : Int32) dX11_bits_0 ci_0 ?_
  refine v_istore_n (pc := 1) [(1, _), (0, _)] dX11_bits_1 (Nat.le_of_ble_eq_true rfl) rfl ?_
  refine v_iload_n (pc := 2) 1 dX11_bits_2 rfl ?_
  refine v_istore_n (pc := 3) [(2, _), (1, _), (0, _)] dX11_bits_3 (Nat.le_of_ble_eq_true rfl) rfl ?_
  replace hf := bd_some hf; obtain ⟨r2, h3, hf⟩ := hf
  refine V_sub [1, 0] rfl (wX11_bits_l4  fu h3 ?_)
  refine v_iload_n (pc := 20) 0 dX11_bits_20 rfl ?_
  have hf2 := Option.some.inj hf; subst hf2
  exact V_iret (pc := 21) hF dX11_bits_21
set_option maxRecDepth 20000 in
theorem kX11_octet {G : Wc} {o : Nat} {S : Ob} {a : Int32} {r : Int32} (hk0 : kd o = 10) (hf : pX11_octet S  a = some r) : Cn yX11_octet cX11_octet 2 (some .int) 1 60 G [.ref (wA G o 0), .int a] [(o, S)] [(o, S)] (some (.int r)) := by
  refine V_method [(0, .ref (wA G o 0)), (1, .int a)] (by decide) rfl (Nat.le_of_ble_eq_true rfl) rfl (fun Γ hF => ?_)
  unfold pX11_octet at hf
  refine v_aload_n (pc := 0) 0 dX11_octet_0 rfl ?_
  refine gf_RX11_14 (pc := 1) 0 rfl hk0 dX11_octet_1 ?_
  refine v_iload_n (pc := 4) 1 dX11_octet_4 rfl ?_
  replace hf := gd_some hf; obtain ⟨g1, hf⟩ := hf
  refine al_X11_1 (pc := 5) _ 0 rfl hk0 rfl g1 dX11_octet_5 ?_
  refine v_sipush (pc := 6) (255 : Int32) dX11_octet_6 cs_255 ?_
  refine v_iand (pc := 9) dX11_octet_9 ?_
  have hf2 := Option.some.inj hf; subst hf2
  exact V_iret (pc := 10) hF dX11_octet_10
set_option maxRecDepth 20000 in
theorem wX11_clears_l2 {G : Wc} {Γ : Cx} {o : Nat}  (hk0 : kd o = 10) : ∀ (n : Nat) {l1 : Int32} {S : Ob} {r : Ob}, pX11_clears_l2   n l1 S = some r → V cX11_clears RX11 1 60 2 G Γ [(o, r)] 21 [(0, .ref (wA G o 0))] [] → V cX11_clears RX11 1 60 2 G Γ [(o, S)] 2 [(0, .ref (wA G o 0)), (1, .int l1)] [] := by
  intro n
  induction n with
  | zero => intro l1 S r hf hx; unfold pX11_clears_l2 at hf; cases hf
  | succ n ih =>
    intro l1 S r hf hx
    have hrec : ∀ {l1 : Int32} {S : Ob}, pX11_clears_l2   n l1 S = some r → V cX11_clears RX11 1 60 2 G Γ [(o, S)] 2 [(0, .ref (wA G o 0)), (1, .int l1)] [] := fun h => ih h hx
    clear ih
    unfold pX11_clears_l2 at hf
    refine v_iload_n (pc := 2) 1 dX11_clears_2 rfl ?_
    refine v_bipush (pc := 3) (121 : Int32) dX11_clears_3 cb_121 ?_
    refine v_icmp_ge (pc := 5) 21 dX11_clears_5 (by decide) (fun c1 => ?_) (fun c1 => ?_)
    · replace hf := it_t c1 hf
      have hf2 := Option.some.inj hf; subst hf2
      exact V_sub [0] rfl hx
    · replace hf := it_f c1 hf
      refine v_aload_n (pc := 8) 0 dX11_clears_8 rfl ?_
      refine gf_RX11_37 (pc := 9) 0 rfl hk0 dX11_clears_9 ?_
      refine v_iload_n (pc := 12) 1 dX11_clears_12 rfl ?_
      refine v_iconst (pc := 13) (0 : Int32) dX11_clears_13 ci_0 ?_
      replace hf := gd_some hf; obtain ⟨g2, hf⟩ := hf
      refine as_X11_7 (pc := 14) [_] _ 0 rfl hk0 rfl g2 rfl dX11_clears_14 ?_
      refine v_iinc (pc := 15) 1 (l1 + (1 : Int32)) [(1, _), (0, _)] dX11_clears_15 rfl (congrArg (fun z => _ + z) ci_1) (Nat.le_of_ble_eq_true rfl) rfl ?_
      refine v_goto (pc := 18) 2 dX11_clears_18 (by decide) ?_
      exact V_sub [1, 0] rfl (hrec hf)
set_option maxRecDepth 20000 in
theorem kX11_clears {G : Wc} {o : Nat} {S : Ob}  {r : Ob} (hk0 : kd o = 10) (hf : pX11_clears S   = some r) : Cn yX11_clears cX11_clears 2 (none) 1 60 G [.ref (wA G o 0)] [(o, S)] [(o, r)] none := by
  refine V_method [(0, .ref (wA G o 0))] (by decide) rfl (Nat.le_of_ble_eq_true rfl) rfl (fun Γ hF => ?_)
  unfold pX11_clears at hf
  refine v_iconst (pc := 0) (0 : Int32) dX11_clears_0 ci_0 ?_
  refine v_istore_n (pc := 1) [(1, _), (0, _)] dX11_clears_1 (Nat.le_of_ble_eq_true rfl) rfl ?_
  replace hf := bd_some hf; obtain ⟨r3, h4, hf⟩ := hf
  refine V_sub [1, 0] rfl (wX11_clears_l2 hk0 fu h4 ?_)
  refine v_aload_n (pc := 21) 0 dX11_clears_21 rfl ?_
  refine gf_RX11_37 (pc := 22) 0 rfl hk0 dX11_clears_22 ?_
  refine v_iconst (pc := 25) (4 : Int32) dX11_clears_25 ci_4 ?_
  refine v_bipush (pc := 26) (9 : Int32) dX11_clears_26 cb_9 ?_
  refine as_X11_7 (pc := 28) [_] 4 0 rfl hk0 rfl ib_4_121 rfl dX11_clears_28 ?_
  have hf2 := Option.some.inj hf; subst hf2
  exact V_vret (pc := 29) hF dX11_clears_29
set_option maxRecDepth 20000 in
theorem kX11_peek {G : Wc} {o : Nat} {S : Ob}  {r : Int32} (hk0 : kd o = 10) (hf : pX11_peek S   = some r) : Cn yX11_peek cX11_peek 1 (some .int) 1 60 G [.ref (wA G o 0)] [(o, S)] [(o, S)] (some (.int r)) := by
  refine V_method [(0, .ref (wA G o 0))] (by decide) rfl (Nat.le_of_ble_eq_true rfl) rfl (fun Γ hF => ?_)
  unfold pX11_peek at hf
  refine v_aload_n (pc := 0) 0 dX11_peek_0 rfl ?_
  refine gf_RX11_21 (pc := 1) 0 rfl hk0 dX11_peek_1 ?_
  refine v_aload_n (pc := 4) 0 dX11_peek_4 rfl ?_
  refine gf_RX11_18 (pc := 5) 0 rfl hk0 dX11_peek_5 ?_
  refine v_icmp_ge (pc := 8) 27 dX11_peek_8 (by decide) (fun c1 => ?_) (fun c1 => ?_)
  · replace hf := it_t c1 hf
    refine v_iconst (pc := 27) (-1 : Int32) dX11_peek_27 ci_m1 ?_
    have hf2 := Option.some.inj hf; subst hf2
    exact V_iret (pc := 28) hF dX11_peek_28
  · replace hf := it_f c1 hf
    refine v_aload_n (pc := 11) 0 dX11_peek_11 rfl ?_
    refine gf_RX11_14 (pc := 12) 0 rfl hk0 dX11_peek_12 ?_
    refine v_aload_n (pc := 15) 0 dX11_peek_15 rfl ?_
    refine gf_RX11_21 (pc := 16) 0 rfl hk0 dX11_peek_16 ?_
    replace hf := gd_some hf; obtain ⟨g2, hf⟩ := hf
    refine al_X11_1 (pc := 19) _ 0 rfl hk0 rfl g2 dX11_peek_19 ?_
    refine v_sipush (pc := 20) (255 : Int32) dX11_peek_20 cs_255 ?_
    refine v_iand (pc := 23) dX11_peek_23 ?_
    refine v_goto (pc := 24) 28 dX11_peek_24 (by decide) ?_
    have hf2 := Option.some.inj hf; subst hf2
    exact V_iret (pc := 28) hF dX11_peek_28
set_option maxRecDepth 20000 in
theorem kX11_isSmall {G : Wc}  {a : Int32} {r : Int32}  (hf : pX11_isSmall   a = some r) : Cn yX11_isSmall cX11_isSmall 1 (some .boolean) 1 60 G [.int a] [] [] (some (.int r)) := by
  refine V_method [(0, .int a)] (by decide) rfl (Nat.le_of_ble_eq_true rfl) rfl (fun Γ hF => ?_)
  unfold pX11_isSmall at hf
  refine v_iload_n (pc := 0) 0 dX11_isSmall_0 rfl ?_
  refine v_bipush (pc := 1) (97 : Int32) dX11_isSmall_1 cb_97 ?_
  refine v_icmp_lt (pc := 3) 16 dX11_isSmall_3 (by decide) (fun c1 => ?_) (fun c1 => ?_)
  · replace hf := it_t c1 hf
    refine v_iconst (pc := 16) (0 : Int32) dX11_isSmall_16 ci_0 ?_
    have hf2 := Option.some.inj hf; subst hf2
    exact V_zret (pc := 17) hF rfl dX11_isSmall_17
  · replace hf := it_f c1 hf
    refine v_iload_n (pc := 6) 0 dX11_isSmall_6 rfl ?_
    refine v_bipush (pc := 7) (122 : Int32) dX11_isSmall_7 cb_122 ?_
    refine v_icmp_gt (pc := 9) 16 dX11_isSmall_9 (by decide) (fun c2 => ?_) (fun c2 => ?_)
    · replace hf := it_t c2 hf
      refine v_iconst (pc := 16) (0 : Int32) dX11_isSmall_16 ci_0 ?_
      have hf2 := Option.some.inj hf; subst hf2
      exact V_zret (pc := 17) hF rfl dX11_isSmall_17
    · replace hf := it_f c2 hf
      refine v_iconst (pc := 12) (1 : Int32) dX11_isSmall_12 ci_1 ?_
      refine v_goto (pc := 13) 17 dX11_isSmall_13 (by decide) ?_
      have hf2 := Option.some.inj hf; subst hf2
      exact V_zret (pc := 17) hF rfl dX11_isSmall_17
set_option maxRecDepth 20000 in
theorem kX11_isDigit {G : Wc}  {a : Int32} {r : Int32}  (hf : pX11_isDigit   a = some r) : Cn yX11_isDigit cX11_isDigit 1 (some .boolean) 1 60 G [.int a] [] [] (some (.int r)) := by
  refine V_method [(0, .int a)] (by decide) rfl (Nat.le_of_ble_eq_true rfl) rfl (fun Γ hF => ?_)
  unfold pX11_isDigit at hf
  refine v_iload_n (pc := 0) 0 dX11_isDigit_0 rfl ?_
  refine v_bipush (pc := 1) (48 : Int32) dX11_isDigit_1 cb_48 ?_
  refine v_icmp_lt (pc := 3) 16 dX11_isDigit_3 (by decide) (fun c1 => ?_) (fun c1 => ?_)
  · replace hf := it_t c1 hf
    refine v_iconst (pc := 16) (0 : Int32) dX11_isDigit_16 ci_0 ?_
    have hf2 := Option.some.inj hf; subst hf2
    exact V_zret (pc := 17) hF rfl dX11_isDigit_17
  · replace hf := it_f c1 hf
    refine v_iload_n (pc := 6) 0 dX11_isDigit_6 rfl ?_
    refine v_bipush (pc := 7) (57 : Int32) dX11_isDigit_7 cb_57 ?_
    refine v_icmp_gt (pc := 9) 16 dX11_isDigit_9 (by decide) (fun c2 => ?_) (fun c2 => ?_)
    · replace hf := it_t c2 hf
      refine v_iconst (pc := 16) (0 : Int32) dX11_isDigit_16 ci_0 ?_
      have hf2 := Option.some.inj hf; subst hf2
      exact V_zret (pc := 17) hF rfl dX11_isDigit_17
    · replace hf := it_f c2 hf
      refine v_iconst (pc := 12) (1 : Int32) dX11_isDigit_12 ci_1 ?_
      refine v_goto (pc := 13) 17 dX11_isDigit_13 (by decide) ?_
      have hf2 := Option.some.inj hf; subst hf2
      exact V_zret (pc := 17) hF rfl dX11_isDigit_17
set_option maxRecDepth 20000 in
theorem wX11_next_j18 {G : Wc} {Γ : Cx} {o : Nat} {S : Ob} {r : Ob} (hk0 : kd o = 10) {rec : Ob → Option (Ob)} (hrec : ∀ {S : Ob}, rec S = some r → V cX11_next RX11 2 80 4 G Γ [(o, S)] 0 [(0, .ref (wA G o 0))] []) (hx : V cX11_next RX11 2 80 4 G Γ [(o, r)] 31 [(0, .ref (wA G o 0))] []) (hf : pX11_next_j18 rec S = some r) : V cX11_next RX11 2 80 4 G Γ [(o, S)] 18 [(0, .ref (wA G o 0))] [] := by
  unfold pX11_next_j18 at hf
  refine v_aload_n (pc := 18) 0 dX11_next_18 rfl ?_
  refine v_dup (pc := 19) dX11_next_19 rfl ?_
  refine gf_RX11_21 (pc := 20) 0 rfl hk0 dX11_next_20 ?_
  refine v_iconst (pc := 23) (1 : Int32) dX11_next_23 ci_1 ?_
  refine v_iadd (pc := 24) dX11_next_24 ?_
  refine pf_RX11_21 (pc := 25) [_] 0 rfl hk0 rfl dX11_next_25 ?_
  refine v_goto (pc := 28) 0 dX11_next_28 (by decide) ?_
  exact V_sub [0] rfl (hrec hf)
set_option maxRecDepth 20000 in
theorem wX11_next_l0 {G : Wc} {Γ : Cx} {o : Nat}  (hk0 : kd o = 10) : ∀ (n : Nat) {S : Ob} {r : Ob}, pX11_next_l0   n S = some r → V cX11_next RX11 2 80 4 G Γ [(o, r)] 31 [(0, .ref (wA G o 0))] [] → V cX11_next RX11 2 80 4 G Γ [(o, S)] 0 [(0, .ref (wA G o 0))] [] := by
  intro n
  induction n with
  | zero => intro S r hf hx; unfold pX11_next_l0 at hf; cases hf
  | succ n ih =>
    intro S r hf hx
    have hrec : ∀ {S : Ob}, pX11_next_l0   n S = some r → V cX11_next RX11 2 80 4 G Γ [(o, S)] 0 [(0, .ref (wA G o 0))] [] := fun h => ih h hx
    clear ih
    unfold pX11_next_l0 at hf
    refine v_aload_n (pc := 0) 0 dX11_next_0 rfl ?_
    replace hf := bd_some hf; obtain ⟨r1, h2, hf⟩ := hf
    refine V_call (pc := 1) (us1 := [_]) [0] 0 (kX11_peek (o := o) hk0 h2) rfl rfl rfl rfl rfl hk0 (Nat.le_of_ble_eq_true rfl) rfl rfl rfl wm_RX11_134 md_X11_peek (Nat.le_of_ble_eq_true rfl) (Nat.le_of_ble_eq_true rfl) rfl rfl (Nat.le_of_ble_eq_true rfl) dX11_next_1 ?_
    refine v_bipush (pc := 4) (32 : Int32) dX11_next_4 cb_32 ?_
    refine v_icmp_eq (pc := 6) 18 dX11_next_6 (by decide) (fun c3 => ?_) (fun c3 => ?_)
    · replace hf := it_t c3 hf
      exact V_sub [0] rfl (wX11_next_j18 hk0 hrec hx hf)
    · replace hf := it_f c3 hf
      refine v_aload_n (pc := 9) 0 dX11_next_9 rfl ?_
      replace hf := bd_some hf; obtain ⟨r4, h5, hf⟩ := hf
      refine V_call (pc := 10) (us1 := [_]) [0] 0 (kX11_peek (o := o) hk0 h5) rfl rfl rfl rfl rfl hk0 (Nat.le_of_ble_eq_true rfl) rfl rfl rfl wm_RX11_134 md_X11_peek (Nat.le_of_ble_eq_true rfl) (Nat.le_of_ble_eq_true rfl) rfl rfl (Nat.le_of_ble_eq_true rfl) dX11_next_10 ?_
      refine v_bipush (pc := 13) (10 : Int32) dX11_next_13 cb_10 ?_
      refine v_icmp_ne (pc := 15) 31 dX11_next_15 (by decide) (fun c6 => ?_) (fun c6 => ?_)
      · replace hf := it_f c6 hf
        have hf2 := Option.some.inj hf; subst hf2
        exact V_sub [0] rfl hx
      · replace hf := it_t c6 hf
        exact V_sub [0] rfl (wX11_next_j18 hk0 hrec hx hf)
set_option maxRecDepth 20000 in
theorem wX11_next_j275 {G : Wc} {Γ : Cx} {o : Nat} {S : Ob} {l2 : Int32} {l3 : Int32} {r : Int32 × Ob} (hk0 : kd o = 10) {rec : Int32 → Ob → Option (Int32 × Ob)} (hrec : ∀ {l3 : Int32} {S : Ob}, rec l3 S = some r → V cX11_next RX11 2 80 4 G Γ [(o, S)] 181 [(0, .ref (wA G o 0)), (2, .int l2), (3, .int l3)] []) (hx : V cX11_next RX11 2 80 4 G Γ [(o, r.2)] 298 [(0, .ref (wA G o 0)), (2, .int l2), (3, .int r.1)] []) (hf : pX11_next_j275 rec S l2 l3 = some r) : V cX11_next RX11 2 80 4 G Γ [(o, S)] 275 [(0, .ref (wA G o 0)), (2, .int l2), (3, .int l3)] [] := by
  unfold pX11_next_j275 at hf
  refine v_aload_n (pc := 275) 0 dX11_next_275 rfl ?_
  refine v_dup (pc := 276) dX11_next_276 rfl ?_
  refine gf_RX11_141 (pc := 277) 0 rfl hk0 dX11_next_277 ?_
  refine v_iconst (pc := 280) (1 : Int32) dX11_next_280 ci_1 ?_
  refine v_iadd (pc := 281) dX11_next_281 ?_
  refine pf_RX11_141 (pc := 282) [_] 0 rfl hk0 rfl dX11_next_282 ?_
  refine v_aload_n (pc := 285) 0 dX11_next_285 rfl ?_
  refine v_dup (pc := 286) dX11_next_286 rfl ?_
  refine gf_RX11_21 (pc := 287) 0 rfl hk0 dX11_next_287 ?_
  refine v_iconst (pc := 290) (1 : Int32) dX11_next_290 ci_1 ?_
  refine v_iadd (pc := 291) dX11_next_291 ?_
  refine pf_RX11_21 (pc := 292) [_] 0 rfl hk0 rfl dX11_next_292 ?_
  refine v_goto (pc := 295) 181 dX11_next_295 (by decide) ?_
  exact V_sub [0, 1, 2] rfl (hrec hf)
set_option maxRecDepth 20000 in
theorem wX11_next_j248 {G : Wc} {Γ : Cx} {o : Nat} {S : Ob} {l2 : Int32} {l3 : Int32} {r : Int32 × Ob} (hk0 : kd o = 10) {rec : Int32 → Ob → Option (Int32 × Ob)} (hrec : ∀ {l3 : Int32} {S : Ob}, rec l3 S = some r → V cX11_next RX11 2 80 4 G Γ [(o, S)] 181 [(0, .ref (wA G o 0)), (2, .int l2), (3, .int l3)] []) (hx : V cX11_next RX11 2 80 4 G Γ [(o, r.2)] 298 [(0, .ref (wA G o 0)), (2, .int l2), (3, .int r.1)] []) (hf : pX11_next_j248 rec S l2 l3 = some r) : V cX11_next RX11 2 80 4 G Γ [(o, S)] 248 [(0, .ref (wA G o 0)), (2, .int l2), (3, .int l3)] [] := by
  unfold pX11_next_j248 at hf
  refine v_aload_n (pc := 248) 0 dX11_next_248 rfl ?_
  refine gf_RX11_141 (pc := 249) 0 rfl hk0 dX11_next_249 ?_
  refine v_iconst (pc := 252) (3 : Int32) dX11_next_252 ci_3 ?_
  refine v_icmp_ge (pc := 253) 275 dX11_next_253 (by decide) (fun c25 => ?_) (fun c25 => ?_)
  · replace hf := it_t c25 hf
    exact V_sub [0, 1, 2] rfl (wX11_next_j275 hk0 hrec hx hf)
  · replace hf := it_f c25 hf
    refine v_aload_n (pc := 256) 0 dX11_next_256 rfl ?_
    refine v_bipush (pc := 257) (10 : Int32) dX11_next_257 cb_10 ?_
    refine v_aload_n (pc := 259) 0 dX11_next_259 rfl ?_
    refine gf_RX11_154 (pc := 260) 0 rfl hk0 dX11_next_260 ?_
    refine v_imul (pc := 263) dX11_next_263 ?_
    refine v_aload_n (pc := 264) 0 dX11_next_264 rfl ?_
    replace hf := bd_some hf; obtain ⟨r26, h27, hf⟩ := hf
    refine V_call (pc := 265) (us1 := [_]) [0] 0 (kX11_peek (o := o) hk0 h27) rfl rfl rfl rfl rfl hk0 (Nat.le_of_ble_eq_true rfl) rfl rfl rfl wm_RX11_134 md_X11_peek (Nat.le_of_ble_eq_true rfl) (Nat.le_of_ble_eq_true rfl) rfl rfl (Nat.le_of_ble_eq_true rfl) dX11_next_265 ?_
    refine v_iadd (pc := 268) dX11_next_268 ?_
    refine v_bipush (pc := 269) (48 : Int32) dX11_next_269 cb_48 ?_
    refine v_isub (pc := 271) dX11_next_271 ?_
    refine pf_RX11_154 (pc := 272) [_] 0 rfl hk0 rfl dX11_next_272 ?_
    exact V_sub [0, 1, 2] rfl (wX11_next_j275 hk0 hrec hx hf)
set_option maxRecDepth 20000 in
theorem wX11_next_j221 {G : Wc} {Γ : Cx} {o : Nat} {S : Ob} {l2 : Int32} {l3 : Int32} {s0 : Int32} {r : Int32 × Ob} (hk0 : kd o = 10) {rec : Int32 → Ob → Option (Int32 × Ob)} (hrec : ∀ {l3 : Int32} {S : Ob}, rec l3 S = some r → V cX11_next RX11 2 80 4 G Γ [(o, S)] 181 [(0, .ref (wA G o 0)), (2, .int l2), (3, .int l3)] []) (hx : V cX11_next RX11 2 80 4 G Γ [(o, r.2)] 298 [(0, .ref (wA G o 0)), (2, .int l2), (3, .int r.1)] []) (hf : pX11_next_j221 rec S l2 l3 s0 = some r) : V cX11_next RX11 2 80 4 G Γ [(o, S)] 221 [(0, .ref (wA G o 0)), (2, .int l2), (3, .int l3)] [.int s0] := by
  unfold pX11_next_j221 at hf
  refine v_istore_n (pc := 221) [(3, _), (0, _), (2, _)] dX11_next_221 (Nat.le_of_ble_eq_true rfl) rfl ?_
  refine v_aload_n (pc := 222) 1 dX11_next_222 rfl ?_
  refine gf_RX11_141 (pc := 223) 0 rfl hk0 dX11_next_223 ?_
  refine v_bipush (pc := 226) (7 : Int32) dX11_next_226 cb_7 ?_
  refine v_icmp_ge (pc := 228) 248 dX11_next_228 (by decide) (fun c24 => ?_) (fun c24 => ?_)
  · replace hf := it_t c24 hf
    exact V_sub [1, 2, 0] rfl (wX11_next_j248 hk0 hrec hx hf)
  · replace hf := it_f c24 hf
    refine v_aload_n (pc := 231) 1 dX11_next_231 rfl ?_
    refine v_aload_n (pc := 232) 1 dX11_next_232 rfl ?_
    refine gf_RX11_157 (pc := 233) 0 rfl hk0 dX11_next_233 ?_
    refine v_bipush (pc := 236) (8 : Int32) dX11_next_236 cb_8 ?_
    refine v_lshl (pc := 238) dX11_next_238 ?_
    refine v_aload_n (pc := 239) 1 dX11_next_239 rfl ?_
    replace hf := bd_some hf; obtain ⟨r28, h29, hf⟩ := hf
    refine V_call (pc := 240) (us1 := [_]) [0] 0 (kX11_peek (o := o) hk0 h29) rfl rfl rfl rfl rfl hk0 (Nat.le_of_ble_eq_true rfl) rfl rfl rfl wm_RX11_134 md_X11_peek (Nat.le_of_ble_eq_true rfl) (Nat.le_of_ble_eq_true rfl) rfl rfl (Nat.le_of_ble_eq_true rfl) dX11_next_240 ?_
    refine v_i2l (pc := 243) dX11_next_243 ?_
    refine v_lor (pc := 244) dX11_next_244 ?_
    refine pf_RX11_157 (pc := 245) [_] 0 rfl hk0 rfl dX11_next_245 ?_
    exact V_sub [1, 2, 0] rfl (wX11_next_j248 hk0 hrec hx hf)
set_option maxRecDepth 20000 in
theorem wX11_next_j220 {G : Wc} {Γ : Cx} {o : Nat} {S : Ob} {l2 : Int32} {l3 : Int32} {r : Int32 × Ob} (hk0 : kd o = 10) {rec : Int32 → Ob → Option (Int32 × Ob)} (hrec : ∀ {l3 : Int32} {S : Ob}, rec l3 S = some r → V cX11_next RX11 2 80 4 G Γ [(o, S)] 181 [(0, .ref (wA G o 0)), (2, .int l2), (3, .int l3)] []) (hx : V cX11_next RX11 2 80 4 G Γ [(o, r.2)] 298 [(0, .ref (wA G o 0)), (2, .int l2), (3, .int r.1)] []) (hf : pX11_next_j220 rec S l2 l3 = some r) : V cX11_next RX11 2 80 4 G Γ [(o, S)] 220 [(0, .ref (wA G o 0)), (2, .int l2), (3, .int l3)] [] := by
  unfold pX11_next_j220 at hf
  refine v_iconst (pc := 220) (0 : Int32) dX11_next_220 ci_0 ?_
  exact V_sub [0, 1, 2] rfl (wX11_next_j221 hk0 hrec hx hf)
set_option maxRecDepth 20000 in
theorem wX11_next_j201 {G : Wc} {Γ : Cx} {o : Nat} {S : Ob} {l2 : Int32} {l3 : Int32} {r : Int32 × Ob} (hk0 : kd o = 10) {rec : Int32 → Ob → Option (Int32 × Ob)} (hrec : ∀ {l3 : Int32} {S : Ob}, rec l3 S = some r → V cX11_next RX11 2 80 4 G Γ [(o, S)] 181 [(0, .ref (wA G o 0)), (2, .int l2), (3, .int l3)] []) (hx : V cX11_next RX11 2 80 4 G Γ [(o, r.2)] 298 [(0, .ref (wA G o 0)), (2, .int l2), (3, .int r.1)] []) (hf : pX11_next_j201 rec S l2 l3 = some r) : V cX11_next RX11 2 80 4 G Γ [(o, S)] 201 [(0, .ref (wA G o 0)), (2, .int l2), (3, .int l3)] [] := by
  unfold pX11_next_j201 at hf
  refine v_iload_n (pc := 201) 2 dX11_next_201 rfl ?_
  refine v_if_eq (pc := 202) 220 dX11_next_202 (by decide) (fun c23 => ?_) (fun c23 => ?_)
  · replace hf := it_t c23 hf
    exact V_sub [0, 1, 2] rfl (wX11_next_j220 hk0 hrec hx hf)
  · replace hf := it_f c23 hf
    refine v_aload_n (pc := 205) 0 dX11_next_205 rfl ?_
    replace hf := bd_some hf; obtain ⟨r30, h31, hf⟩ := hf
    refine V_call (pc := 206) (us1 := [_]) [0] 0 (kX11_peek (o := o) hk0 h31) rfl rfl rfl rfl rfl hk0 (Nat.le_of_ble_eq_true rfl) rfl rfl rfl wm_RX11_134 md_X11_peek (Nat.le_of_ble_eq_true rfl) (Nat.le_of_ble_eq_true rfl) rfl rfl (Nat.le_of_ble_eq_true rfl) dX11_next_206 ?_
    replace hf := bd_some hf; obtain ⟨r32, h33, hf⟩ := hf
    refine V_callS (pc := 209) (us1 := [_]) [] (kX11_isSmall  h33) rfl rfl rfl rfl wm_RX11_147 md_X11_isSmall (Nat.le_of_ble_eq_true rfl) (Nat.le_of_ble_eq_true rfl) rfl rfl (Nat.le_of_ble_eq_true rfl) dX11_next_209 ?_
    refine v_iload_n (pc := 212) 1 dX11_next_212 rfl ?_
    refine v_icmp_ne (pc := 213) 220 dX11_next_213 (by decide) (fun c34 => ?_) (fun c34 => ?_)
    · replace hf := it_f c34 hf
      exact V_sub [0, 1, 2] rfl (wX11_next_j220 hk0 hrec hx hf)
    · replace hf := it_t c34 hf
      refine v_iconst (pc := 216) (1 : Int32) dX11_next_216 ci_1 ?_
      refine v_goto (pc := 217) 221 dX11_next_217 (by decide) ?_
      exact V_sub [0, 1, 2] rfl (wX11_next_j221 hk0 hrec hx hf)
set_option maxRecDepth 20000 in
theorem wX11_next_l181 {G : Wc} {Γ : Cx} {o : Nat} {l2 : Int32} (hk0 : kd o = 10) : ∀ (n : Nat) {l3 : Int32} {S : Ob} {r : Int32 × Ob}, pX11_next_l181  l2 n l3 S = some r → V cX11_next RX11 2 80 4 G Γ [(o, r.2)] 298 [(0, .ref (wA G o 0)), (2, .int l2), (3, .int r.1)] [] → V cX11_next RX11 2 80 4 G Γ [(o, S)] 181 [(0, .ref (wA G o 0)), (2, .int l2), (3, .int l3)] [] := by
  intro n
  induction n with
  | zero => intro l3 S r hf hx; unfold pX11_next_l181 at hf; cases hf
  | succ n ih =>
    intro l3 S r hf hx
    have hrec : ∀ {l3 : Int32} {S : Ob}, pX11_next_l181  l2 n l3 S = some r → V cX11_next RX11 2 80 4 G Γ [(o, S)] 181 [(0, .ref (wA G o 0)), (2, .int l2), (3, .int l3)] [] := fun h => ih h hx
    clear ih
    unfold pX11_next_l181 at hf
    refine v_aload_n (pc := 181) 0 dX11_next_181 rfl ?_
    replace hf := bd_some hf; obtain ⟨r18, h19, hf⟩ := hf
    refine V_call (pc := 182) (us1 := [_]) [0] 0 (kX11_peek (o := o) hk0 h19) rfl rfl rfl rfl rfl hk0 (Nat.le_of_ble_eq_true rfl) rfl rfl rfl wm_RX11_134 md_X11_peek (Nat.le_of_ble_eq_true rfl) (Nat.le_of_ble_eq_true rfl) rfl rfl (Nat.le_of_ble_eq_true rfl) dX11_next_182 ?_
    replace hf := bd_some hf; obtain ⟨r20, h21, hf⟩ := hf
    refine V_callS (pc := 185) (us1 := [_]) [] (kX11_isSmall  h21) rfl rfl rfl rfl wm_RX11_147 md_X11_isSmall (Nat.le_of_ble_eq_true rfl) (Nat.le_of_ble_eq_true rfl) rfl rfl (Nat.le_of_ble_eq_true rfl) dX11_next_185 ?_
    refine v_if_ne (pc := 188) 201 dX11_next_188 (by decide) (fun c22 => ?_) (fun c22 => ?_)
    · replace hf := it_f c22 hf
      exact V_sub [0, 1, 2] rfl (wX11_next_j201 hk0 hrec hx hf)
    · replace hf := it_t c22 hf
      refine v_aload_n (pc := 191) 0 dX11_next_191 rfl ?_
      replace hf := bd_some hf; obtain ⟨r35, h36, hf⟩ := hf
      refine V_call (pc := 192) (us1 := [_]) [0] 0 (kX11_peek (o := o) hk0 h36) rfl rfl rfl rfl rfl hk0 (Nat.le_of_ble_eq_true rfl) rfl rfl rfl wm_RX11_134 md_X11_peek (Nat.le_of_ble_eq_true rfl) (Nat.le_of_ble_eq_true rfl) rfl rfl (Nat.le_of_ble_eq_true rfl) dX11_next_192 ?_
      replace hf := bd_some hf; obtain ⟨r37, h38, hf⟩ := hf
      refine V_callS (pc := 195) (us1 := [_]) [] (kX11_isDigit  h38) rfl rfl rfl rfl wm_RX11_151 md_X11_isDigit (Nat.le_of_ble_eq_true rfl) (Nat.le_of_ble_eq_true rfl) rfl rfl (Nat.le_of_ble_eq_true rfl) dX11_next_195 ?_
      refine v_if_eq (pc := 198) 298 dX11_next_198 (by decide) (fun c39 => ?_) (fun c39 => ?_)
      · replace hf := it_t c39 hf
        have hf2 := Option.some.inj hf; subst hf2
        exact V_sub [0, 1, 2] rfl hx
      · replace hf := it_f c39 hf
        exact V_sub [0, 1, 2] rfl (wX11_next_j201 hk0 hrec hx hf)
set_option maxRecDepth 20000 in
theorem wX11_next_j317 {G : Wc} {Γ : Cx} {o : Nat} {S : Ob} {l2 : Int32} {s1 : Int32} {s2 : Int32} {r : Ob} (hk0 : kd o = 10) (hF : Fnl G Γ (none) none (ov Γ.2.2.2 [(o, r)])) (hf : pX11_next_j317 S l2 s1 s2 = some r) : V cX11_next RX11 2 80 4 G Γ [(o, S)] 317 [(2, .int l2)] [.int s2, .int s1, .ref (wA G o 0)] := by
  unfold pX11_next_j317 at hf
  refine v_icmp_le (pc := 317) 324 dX11_next_317 (by decide) (fun c44 => ?_) (fun c44 => ?_)
  · replace hf := it_t c44 hf
    refine v_iload_n (pc := 324) 0 dX11_next_324 rfl ?_
    refine v_if_eq (pc := 325) 332 dX11_next_325 (by decide) (fun c45 => ?_) (fun c45 => ?_)
    · replace hf := it_t c45 hf
      refine v_iconst (pc := 332) (2 : Int32) dX11_next_332 ci_2 ?_
      refine pf_RX11_144 (pc := 333) [_] 0 rfl hk0 rfl dX11_next_333 ?_
      have hf2 := Option.some.inj hf; subst hf2
      exact V_vret (pc := 336) hF dX11_next_336
    · replace hf := it_f c45 hf
      refine v_iconst (pc := 328) (1 : Int32) dX11_next_328 ci_1 ?_
      refine v_goto (pc := 329) 333 dX11_next_329 (by decide) ?_
      refine pf_RX11_144 (pc := 333) [_] 0 rfl hk0 rfl dX11_next_333 ?_
      have hf2 := Option.some.inj hf; subst hf2
      exact V_vret (pc := 336) hF dX11_next_336
  · replace hf := it_f c44 hf
    refine v_iconst (pc := 320) (4 : Int32) dX11_next_320 ci_4 ?_
    refine v_goto (pc := 321) 333 dX11_next_321 (by decide) ?_
    refine pf_RX11_144 (pc := 333) [_] 0 rfl hk0 rfl dX11_next_333 ?_
    have hf2 := Option.some.inj hf; subst hf2
    exact V_vret (pc := 336) hF dX11_next_336
set_option maxRecDepth 20000 in
theorem wX11_next_j164 {G : Wc} {Γ : Cx} {o : Nat} {S : Ob} {l1 : Int32} {r : Ob} (hk0 : kd o = 10) (hF : Fnl G Γ (none) none (ov Γ.2.2.2 [(o, r)])) (hf : pX11_next_j164 S l1 = some r) : V cX11_next RX11 2 80 4 G Γ [(o, S)] 164 [(0, .ref (wA G o 0)), (1, .int l1)] [] := by
  unfold pX11_next_j164 at hf
  refine v_iload_n (pc := 164) 1 dX11_next_164 rfl ?_
  replace hf := bd_some hf; obtain ⟨r16, h17, hf⟩ := hf
  refine V_callS (pc := 165) (us1 := [_]) [] (kX11_isSmall  h17) rfl rfl rfl rfl wm_RX11_147 md_X11_isSmall (Nat.le_of_ble_eq_true rfl) (Nat.le_of_ble_eq_true rfl) rfl rfl (Nat.le_of_ble_eq_true rfl) dX11_next_165 ?_
  refine v_istore_n (pc := 168) [(2, _), (0, _), (1, _)] dX11_next_168 (Nat.le_of_ble_eq_true rfl) rfl ?_
  refine v_iconst (pc := 169) (1 : Int32) dX11_next_169 ci_1 ?_
  refine v_istore_n (pc := 170) [(3, _), (2, _), (0, _), (1, _)] dX11_next_170 (Nat.le_of_ble_eq_true rfl) rfl ?_
  refine v_aload_n (pc := 171) 2 dX11_next_171 rfl ?_
  refine v_lconst (pc := 172) (0 : Int64) dX11_next_172 rfl ?_
  refine pf_RX11_157 (pc := 173) [_] 0 rfl hk0 rfl dX11_next_173 ?_
  refine v_aload_n (pc := 176) 2 dX11_next_176 rfl ?_
  refine v_iconst (pc := 177) (0 : Int32) dX11_next_177 ci_0 ?_
  refine pf_RX11_154 (pc := 178) [_] 0 rfl hk0 rfl dX11_next_178 ?_
  replace hf := bd_some hf; obtain ⟨r40, h41, hf⟩ := hf
  refine V_sub [2, 1, 0] rfl (wX11_next_l181 hk0 fu h41 ?_)
  refine v_aload_n (pc := 298) 0 dX11_next_298 rfl ?_
  refine v_iload_n (pc := 299) 2 dX11_next_299 rfl ?_
  refine v_if_eq (pc := 300) 320 dX11_next_300 (by decide) (fun c42 => ?_) (fun c42 => ?_)
  · replace hf := it_t c42 hf
    refine v_iconst (pc := 320) (4 : Int32) dX11_next_320 ci_4 ?_
    refine v_goto (pc := 321) 333 dX11_next_321 (by decide) ?_
    refine pf_RX11_144 (pc := 333) [_] 0 rfl hk0 rfl dX11_next_333 ?_
    have hf2 := Option.some.inj hf; subst hf2
    exact V_vret (pc := 336) hF dX11_next_336
  · replace hf := it_f c42 hf
    refine v_aload_n (pc := 303) 0 dX11_next_303 rfl ?_
    refine gf_RX11_141 (pc := 304) 0 rfl hk0 dX11_next_304 ?_
    refine v_iload_n (pc := 307) 1 dX11_next_307 rfl ?_
    refine v_if_eq (pc := 308) 316 dX11_next_308 (by decide) (fun c43 => ?_) (fun c43 => ?_)
    · replace hf := it_t c43 hf
      refine v_iconst (pc := 316) (3 : Int32) dX11_next_316 ci_3 ?_
      exact V_sub [1] rfl (wX11_next_j317 hk0 hF hf)
    · replace hf := it_f c43 hf
      refine v_bipush (pc := 311) (7 : Int32) dX11_next_311 cb_7 ?_
      refine v_goto (pc := 313) 317 dX11_next_313 (by decide) ?_
      exact V_sub [1] rfl (wX11_next_j317 hk0 hF hf)
set_option maxRecDepth 20000 in
theorem wX11_next_j145 {G : Wc} {Γ : Cx} {o : Nat} {S : Ob} {l1 : Int32} {s1 : Int32} {r : Ob} (hk0 : kd o = 10) (hF : Fnl G Γ (none) none (ov Γ.2.2.2 [(o, r)])) (hf : pX11_next_j145 S l1 s1 = some r) : V cX11_next RX11 2 80 4 G Γ [(o, S)] 145 [(0, .ref (wA G o 0)), (1, .int l1)] [.int s1, .ref (wA G o 0)] := by
  unfold pX11_next_j145 at hf
  refine pf_RX11_144 (pc := 145) [_] 0 rfl hk0 rfl dX11_next_145 ?_
  refine v_aload_n (pc := 148) 0 dX11_next_148 rfl ?_
  refine v_iload_n (pc := 149) 1 dX11_next_149 rfl ?_
  refine pf_RX11_154 (pc := 150) [_] 0 rfl hk0 rfl dX11_next_150 ?_
  refine v_aload_n (pc := 153) 0 dX11_next_153 rfl ?_
  refine v_dup (pc := 154) dX11_next_154 rfl ?_
  refine gf_RX11_21 (pc := 155) 0 rfl hk0 dX11_next_155 ?_
  refine v_iconst (pc := 158) (1 : Int32) dX11_next_158 ci_1 ?_
  refine v_iadd (pc := 159) dX11_next_159 ?_
  refine pf_RX11_21 (pc := 160) [_] 0 rfl hk0 rfl dX11_next_160 ?_
  have hf2 := Option.some.inj hf; subst hf2
  exact V_vret (pc := 163) hF dX11_next_163
set_option maxRecDepth 20000 in
theorem wX11_next_j140 {G : Wc} {Γ : Cx} {o : Nat} {S : Ob} {l1 : Int32} {r : Ob} (hk0 : kd o = 10) (hF : Fnl G Γ (none) none (ov Γ.2.2.2 [(o, r)])) (hf : pX11_next_j140 S l1 = some r) : V cX11_next RX11 2 80 4 G Γ [(o, S)] 140 [(0, .ref (wA G o 0)), (1, .int l1)] [.ref (wA G o 0)] := by
  unfold pX11_next_j140 at hf
  refine v_iconst (pc := 140) (3 : Int32) dX11_next_140 ci_3 ?_
  refine v_goto (pc := 141) 145 dX11_next_141 (by decide) ?_
  exact V_sub [0, 1] rfl (wX11_next_j145 hk0 hF hf)
set_option maxRecDepth 20000 in
theorem wX11_next_j144 {G : Wc} {Γ : Cx} {o : Nat} {S : Ob} {l1 : Int32} {r : Ob} (hk0 : kd o = 10) (hF : Fnl G Γ (none) none (ov Γ.2.2.2 [(o, r)])) (hf : pX11_next_j144 S l1 = some r) : V cX11_next RX11 2 80 4 G Γ [(o, S)] 144 [(0, .ref (wA G o 0)), (1, .int l1)] [.ref (wA G o 0)] := by
  unfold pX11_next_j144 at hf
  refine v_iconst (pc := 144) (4 : Int32) dX11_next_144 ci_4 ?_
  exact V_sub [0, 1] rfl (wX11_next_j145 hk0 hF hf)
set_option maxRecDepth 20000 in
theorem wX11_next_j80 {G : Wc} {Γ : Cx} {o : Nat} {S : Ob} {r : Ob} (hk0 : kd o = 10) (hF : Fnl G Γ (none) none (ov Γ.2.2.2 [(o, r)])) (hf : pX11_next_j80 S = some r) : V cX11_next RX11 2 80 4 G Γ [(o, S)] 80 [(0, .ref (wA G o 0))] [] := by
  unfold pX11_next_j80 at hf
  refine v_aload_n (pc := 80) 0 dX11_next_80 rfl ?_
  replace hf := bd_some hf; obtain ⟨r10, h11, hf⟩ := hf
  refine V_call (pc := 81) (us1 := [_]) [0] 0 (kX11_peek (o := o) hk0 h11) rfl rfl rfl rfl rfl hk0 (Nat.le_of_ble_eq_true rfl) rfl rfl rfl wm_RX11_134 md_X11_peek (Nat.le_of_ble_eq_true rfl) (Nat.le_of_ble_eq_true rfl) rfl rfl (Nat.le_of_ble_eq_true rfl) dX11_next_81 ?_
  refine v_istore_n (pc := 84) [(1, _), (0, _)] dX11_next_84 (Nat.le_of_ble_eq_true rfl) rfl ?_
  refine v_iload_n (pc := 85) 0 dX11_next_85 rfl ?_
  refine v_if_ge (pc := 86) 95 dX11_next_86 (by decide) (fun c12 => ?_) (fun c12 => ?_)
  · replace hf := it_t c12 hf
    refine v_iload_n (pc := 95) 0 dX11_next_95 rfl ?_
    replace hf := bd_some hf; obtain ⟨r13, h14, hf⟩ := hf
    refine V_callS (pc := 96) (us1 := [_]) [] (kX11_isSmall  h14) rfl rfl rfl rfl wm_RX11_147 md_X11_isSmall (Nat.le_of_ble_eq_true rfl) (Nat.le_of_ble_eq_true rfl) rfl rfl (Nat.le_of_ble_eq_true rfl) dX11_next_96 ?_
    refine v_if_ne (pc := 99) 164 dX11_next_99 (by decide) (fun c15 => ?_) (fun c15 => ?_)
    · replace hf := it_f c15 hf
      exact V_sub [1, 0] rfl (wX11_next_j164 hk0 hF hf)
    · replace hf := it_t c15 hf
      refine v_iload_n (pc := 102) 0 dX11_next_102 rfl ?_
      replace hf := bd_some hf; obtain ⟨r46, h47, hf⟩ := hf
      refine V_callS (pc := 103) (us1 := [_]) [] (kX11_isDigit  h47) rfl rfl rfl rfl wm_RX11_151 md_X11_isDigit (Nat.le_of_ble_eq_true rfl) (Nat.le_of_ble_eq_true rfl) rfl rfl (Nat.le_of_ble_eq_true rfl) dX11_next_103 ?_
      refine v_if_ne (pc := 106) 164 dX11_next_106 (by decide) (fun c48 => ?_) (fun c48 => ?_)
      · replace hf := it_f c48 hf
        exact V_sub [1, 0] rfl (wX11_next_j164 hk0 hF hf)
      · replace hf := it_t c48 hf
        refine v_aload_n (pc := 109) 1 dX11_next_109 rfl ?_
        refine v_iload_n (pc := 110) 0 dX11_next_110 rfl ?_
        refine v_bipush (pc := 111) (59 : Int32) dX11_next_111 cb_59 ?_
        refine v_icmp_eq (pc := 113) 140 dX11_next_113 (by decide) (fun c49 => ?_) (fun c49 => ?_)
        · replace hf := it_t c49 hf
          exact V_sub [1, 0] rfl (wX11_next_j140 hk0 hF hf)
        · replace hf := it_f c49 hf
          refine v_iload_n (pc := 116) 0 dX11_next_116 rfl ?_
          refine v_bipush (pc := 117) (40 : Int32) dX11_next_117 cb_40 ?_
          refine v_icmp_eq (pc := 119) 140 dX11_next_119 (by decide) (fun c50 => ?_) (fun c50 => ?_)
          · replace hf := it_t c50 hf
            exact V_sub [1, 0] rfl (wX11_next_j140 hk0 hF hf)
          · replace hf := it_f c50 hf
            refine v_iload_n (pc := 122) 0 dX11_next_122 rfl ?_
            refine v_bipush (pc := 123) (41 : Int32) dX11_next_123 cb_41 ?_
            refine v_icmp_eq (pc := 125) 140 dX11_next_125 (by decide) (fun c51 => ?_) (fun c51 => ?_)
            · replace hf := it_t c51 hf
              exact V_sub [1, 0] rfl (wX11_next_j140 hk0 hF hf)
            · replace hf := it_f c51 hf
              refine v_iload_n (pc := 128) 0 dX11_next_128 rfl ?_
              refine v_bipush (pc := 129) (60 : Int32) dX11_next_129 cb_60 ?_
              refine v_icmp_lt (pc := 131) 144 dX11_next_131 (by decide) (fun c52 => ?_) (fun c52 => ?_)
              · replace hf := it_t c52 hf
                exact V_sub [1, 0] rfl (wX11_next_j144 hk0 hF hf)
              · replace hf := it_f c52 hf
                refine v_iload_n (pc := 134) 0 dX11_next_134 rfl ?_
                refine v_bipush (pc := 135) (62 : Int32) dX11_next_135 cb_62 ?_
                refine v_icmp_gt (pc := 137) 144 dX11_next_137 (by decide) (fun c53 => ?_) (fun c53 => ?_)
                · replace hf := it_t c53 hf
                  exact V_sub [1, 0] rfl (wX11_next_j144 hk0 hF hf)
                · replace hf := it_f c53 hf
                  exact V_sub [1, 0] rfl (wX11_next_j140 hk0 hF hf)
  · replace hf := it_f c12 hf
    refine v_aload_n (pc := 89) 1 dX11_next_89 rfl ?_
    refine v_iconst (pc := 90) (0 : Int32) dX11_next_90 ci_0 ?_
    refine pf_RX11_144 (pc := 91) [_] 0 rfl hk0 rfl dX11_next_91 ?_
    have hf2 := Option.some.inj hf; subst hf2
    exact V_vret (pc := 94) hF dX11_next_94
set_option maxRecDepth 20000 in
theorem kX11_next {G : Wc} {o : Nat} {S : Ob}  {r : Ob} (hk0 : kd o = 10) (hf : pX11_next S   = some r) : Cn yX11_next cX11_next 4 (none) 2 80 G [.ref (wA G o 0)] [(o, S)] [(o, r)] none := by
  refine V_method [(0, .ref (wA G o 0))] (by decide) rfl (Nat.le_of_ble_eq_true rfl) rfl (fun Γ hF => ?_)
  unfold pX11_next at hf
  replace hf := bd_some hf; obtain ⟨r7, h8, hf⟩ := hf
  refine V_sub [0] rfl (wX11_next_l0 hk0 fu h8 ?_)
  refine v_aload_n (pc := 31) 0 dX11_next_31 rfl ?_
  refine v_aload_n (pc := 32) 0 dX11_next_32 rfl ?_
  refine gf_RX11_21 (pc := 33) 0 rfl hk0 dX11_next_33 ?_
  refine pf_RX11_138 (pc := 36) [_] 0 rfl hk0 rfl dX11_next_36 ?_
  refine v_aload_n (pc := 39) 0 dX11_next_39 rfl ?_
  refine v_iconst (pc := 40) (0 : Int32) dX11_next_40 ci_0 ?_
  refine pf_RX11_141 (pc := 41) [_] 0 rfl hk0 rfl dX11_next_41 ?_
  refine v_aload_n (pc := 44) 0 dX11_next_44 rfl ?_
  refine gf_RX11_18 (pc := 45) 0 rfl hk0 dX11_next_45 ?_
  refine v_aload_n (pc := 48) 0 dX11_next_48 rfl ?_
  refine gf_RX11_24 (pc := 49) 0 rfl hk0 dX11_next_49 ?_
  refine v_icmp_le (pc := 52) 80 dX11_next_52 (by decide) (fun c9 => ?_) (fun c9 => ?_)
  · replace hf := it_t c9 hf
    exact V_sub [0] rfl (wX11_next_j80 hk0 hF hf)
  · replace hf := it_f c9 hf
    refine v_aload_n (pc := 55) 0 dX11_next_55 rfl ?_
    refine gf_RX11_21 (pc := 56) 0 rfl hk0 dX11_next_56 ?_
    refine v_aload_n (pc := 59) 0 dX11_next_59 rfl ?_
    refine gf_RX11_24 (pc := 60) 0 rfl hk0 dX11_next_60 ?_
    refine v_icmp_lt (pc := 63) 80 dX11_next_63 (by decide) (fun c54 => ?_) (fun c54 => ?_)
    · replace hf := it_t c54 hf
      exact V_sub [0] rfl (wX11_next_j80 hk0 hF hf)
    · replace hf := it_f c54 hf
      refine v_aload_n (pc := 66) 0 dX11_next_66 rfl ?_
      refine v_aload_n (pc := 67) 0 dX11_next_67 rfl ?_
      refine gf_RX11_24 (pc := 68) 0 rfl hk0 dX11_next_68 ?_
      refine pf_RX11_138 (pc := 71) [_] 0 rfl hk0 rfl dX11_next_71 ?_
      refine v_aload_n (pc := 74) 0 dX11_next_74 rfl ?_
      refine v_iconst (pc := 75) (4 : Int32) dX11_next_75 ci_4 ?_
      refine pf_RX11_144 (pc := 76) [_] 0 rfl hk0 rfl dX11_next_76 ?_
      have hf2 := Option.some.inj hf; subst hf2
      exact V_vret (pc := 79) hF dX11_next_79
set_option maxRecDepth 20000 in
theorem kX11_bad {G : Wc} {o : Nat} {S : Ob} {a : Int32} {r : Int32 × Ob} (hk0 : kd o = 10) (hf : pX11_bad S  a = some r) : Cn yX11_bad cX11_bad 2 (some .boolean) 1 60 G [.ref (wA G o 0), .int a] [(o, S)] [(o, r.2)] (some (.int r.1)) := by
  refine V_method [(0, .ref (wA G o 0)), (1, .int a)] (by decide) rfl (Nat.le_of_ble_eq_true rfl) rfl (fun Γ hF => ?_)
  unfold pX11_bad at hf
  refine v_aload_n (pc := 0) 0 dX11_bad_0 rfl ?_
  refine v_iload_n (pc := 1) 1 dX11_bad_1 rfl ?_
  refine pf_RX11_161 (pc := 2) [_] 0 rfl hk0 rfl dX11_bad_2 ?_
  refine v_aload_n (pc := 5) 0 dX11_bad_5 rfl ?_
  refine v_aload_n (pc := 6) 0 dX11_bad_6 rfl ?_
  refine gf_RX11_138 (pc := 7) 0 rfl hk0 dX11_bad_7 ?_
  refine pf_RX11_164 (pc := 10) [_] 0 rfl hk0 rfl dX11_bad_10 ?_
  refine v_iconst (pc := 13) (0 : Int32) dX11_bad_13 ci_0 ?_
  have hf2 := Option.some.inj hf; subst hf2
  exact V_zret (pc := 14) hF rfl dX11_bad_14
set_option maxRecDepth 20000 in
theorem kX11_isWord {G : Wc} {o : Nat} {S : Ob} {a : Int64} {r : Int32} (hk0 : kd o = 10) (hf : pX11_isWord S  a = some r) : Cn yX11_isWord cX11_isWord 3 (some .boolean) 1 60 G [.ref (wA G o 0), .long a] [(o, S)] [(o, S)] (some (.int r)) := by
  refine V_method [(0, .ref (wA G o 0)), (1, .long a)] (by decide) rfl (Nat.le_of_ble_eq_true rfl) rfl (fun Γ hF => ?_)
  unfold pX11_isWord at hf
  refine v_aload_n (pc := 0) 0 dX11_isWord_0 rfl ?_
  refine gf_RX11_144 (pc := 1) 0 rfl hk0 dX11_isWord_1 ?_
  refine v_iconst (pc := 4) (1 : Int32) dX11_isWord_4 ci_1 ?_
  refine v_icmp_ne (pc := 5) 21 dX11_isWord_5 (by decide) (fun c1 => ?_) (fun c1 => ?_)
  · replace hf := it_f c1 hf
    refine v_iconst (pc := 21) (0 : Int32) dX11_isWord_21 ci_0 ?_
    have hf2 := Option.some.inj hf; subst hf2
    exact V_zret (pc := 22) hF rfl dX11_isWord_22
  · replace hf := it_t c1 hf
    refine v_aload_n (pc := 8) 0 dX11_isWord_8 rfl ?_
    refine gf_RX11_157 (pc := 9) 0 rfl hk0 dX11_isWord_9 ?_
    refine v_lload_n (pc := 12) 1 dX11_isWord_12 rfl ?_
    refine v_lcmp (pc := 13) dX11_isWord_13 ?_
    refine v_if_ne (pc := 14) 21 dX11_isWord_14 (by decide) (fun c2 => ?_) (fun c2 => ?_)
    · replace hf := it_f c2 hf
      refine v_iconst (pc := 21) (0 : Int32) dX11_isWord_21 ci_0 ?_
      have hf2 := Option.some.inj hf; subst hf2
      exact V_zret (pc := 22) hF rfl dX11_isWord_22
    · replace hf := it_t c2 hf
      refine v_iconst (pc := 17) (1 : Int32) dX11_isWord_17 ci_1 ?_
      refine v_goto (pc := 18) 22 dX11_isWord_18 (by decide) ?_
      have hf2 := Option.some.inj hf; subst hf2
      exact V_zret (pc := 22) hF rfl dX11_isWord_22
set_option maxRecDepth 20000 in
theorem kX11_isSign {G : Wc} {o : Nat} {S : Ob} {a : Int32} {r : Int32} (hk0 : kd o = 10) (hf : pX11_isSign S  a = some r) : Cn yX11_isSign cX11_isSign 2 (some .boolean) 1 60 G [.ref (wA G o 0), .int a] [(o, S)] [(o, S)] (some (.int r)) := by
  refine V_method [(0, .ref (wA G o 0)), (1, .int a)] (by decide) rfl (Nat.le_of_ble_eq_true rfl) rfl (fun Γ hF => ?_)
  unfold pX11_isSign at hf
  refine v_aload_n (pc := 0) 0 dX11_isSign_0 rfl ?_
  refine gf_RX11_144 (pc := 1) 0 rfl hk0 dX11_isSign_1 ?_
  refine v_iconst (pc := 4) (3 : Int32) dX11_isSign_4 ci_3 ?_
  refine v_icmp_ne (pc := 5) 20 dX11_isSign_5 (by decide) (fun c1 => ?_) (fun c1 => ?_)
  · replace hf := it_f c1 hf
    refine v_iconst (pc := 20) (0 : Int32) dX11_isSign_20 ci_0 ?_
    have hf2 := Option.some.inj hf; subst hf2
    exact V_zret (pc := 21) hF rfl dX11_isSign_21
  · replace hf := it_t c1 hf
    refine v_aload_n (pc := 8) 0 dX11_isSign_8 rfl ?_
    refine gf_RX11_154 (pc := 9) 0 rfl hk0 dX11_isSign_9 ?_
    refine v_iload_n (pc := 12) 1 dX11_isSign_12 rfl ?_
    refine v_icmp_ne (pc := 13) 20 dX11_isSign_13 (by decide) (fun c2 => ?_) (fun c2 => ?_)
    · replace hf := it_f c2 hf
      refine v_iconst (pc := 20) (0 : Int32) dX11_isSign_20 ci_0 ?_
      have hf2 := Option.some.inj hf; subst hf2
      exact V_zret (pc := 21) hF rfl dX11_isSign_21
    · replace hf := it_t c2 hf
      refine v_iconst (pc := 16) (1 : Int32) dX11_isSign_16 ci_1 ?_
      refine v_goto (pc := 17) 21 dX11_isSign_17 (by decide) ?_
      have hf2 := Option.some.inj hf; subst hf2
      exact V_zret (pc := 21) hF rfl dX11_isSign_21
set_option maxRecDepth 20000 in
theorem kX11_sign {G : Wc} {o : Nat} {S : Ob} {a : Int32} {r : Int32 × Ob} (hk0 : kd o = 10) (hf : pX11_sign S  a = some r) : Cn yX11_sign cX11_sign 2 (some .boolean) 3 103 G [.ref (wA G o 0), .int a] [(o, S)] [(o, r.2)] (some (.int r.1)) := by
  refine V_method [(0, .ref (wA G o 0)), (1, .int a)] (by decide) rfl (Nat.le_of_ble_eq_true rfl) rfl (fun Γ hF => ?_)
  unfold pX11_sign at hf
  refine v_aload_n (pc := 0) 0 dX11_sign_0 rfl ?_
  refine v_iload_n (pc := 1) 1 dX11_sign_1 rfl ?_
  replace hf := bd_some hf; obtain ⟨r1, h2, hf⟩ := hf
  refine V_call (pc := 2) (us1 := [_]) [0] 0 (kX11_isSign (o := o) hk0 h2) rfl rfl rfl rfl rfl hk0 (Nat.le_of_ble_eq_true rfl) rfl rfl rfl wm_RX11_167 md_X11_isSign (Nat.le_of_ble_eq_true rfl) (Nat.le_of_ble_eq_true rfl) rfl rfl (Nat.le_of_ble_eq_true rfl) dX11_sign_2 ?_
  refine v_if_ne (pc := 5) 14 dX11_sign_5 (by decide) (fun c3 => ?_) (fun c3 => ?_)
  · replace hf := it_f c3 hf
    refine v_aload_n (pc := 14) 0 dX11_sign_14 rfl ?_
    replace hf := bd_some hf; obtain ⟨r4, h5, hf⟩ := hf
    refine V_call (pc := 15) (us1 := [_]) [0] 0 (kX11_next (o := o) hk0 h5) rfl rfl rfl rfl rfl hk0 (Nat.le_of_ble_eq_true rfl) rfl rfl rfl wm_RX11_173 md_X11_next (Nat.le_of_ble_eq_true rfl) (Nat.le_of_ble_eq_true rfl) rfl rfl (Nat.le_of_ble_eq_true rfl) dX11_sign_15 ?_
    refine v_iconst (pc := 18) (1 : Int32) dX11_sign_18 ci_1 ?_
    have hf2 := Option.some.inj hf; subst hf2
    exact V_zret (pc := 19) hF rfl dX11_sign_19
  · replace hf := it_t c3 hf
    refine v_aload_n (pc := 8) 0 dX11_sign_8 rfl ?_
    refine v_iconst (pc := 9) (1 : Int32) dX11_sign_9 ci_1 ?_
    replace hf := bd_some hf; obtain ⟨r6, h7, hf⟩ := hf
    refine V_call (pc := 10) (us1 := [_]) [0] 0 (kX11_bad (o := o) hk0 h7) rfl rfl rfl rfl rfl hk0 (Nat.le_of_ble_eq_true rfl) rfl rfl rfl wm_RX11_170 md_X11_bad (Nat.le_of_ble_eq_true rfl) (Nat.le_of_ble_eq_true rfl) rfl rfl (Nat.le_of_ble_eq_true rfl) dX11_sign_10 ?_
    replace hf := gd_some hf; obtain ⟨g8, hf⟩ := hf
    have hf2 := Option.some.inj hf; subst hf2
    exact V_zret (pc := 13) hF g8 dX11_sign_13
set_option maxRecDepth 20000 in
theorem wX11_isName_l16 {G : Wc} {Γ : Cx} {o : Nat} {S : Ob} (hk0 : kd o = 10) : ∀ (n : Nat) {l1 : Int32} {l2 : Int32} {r : Int32}, pX11_isName_l16  S n l1 l2 = some r → V cX11_isName RX11 1 60 3 G Γ [(o, S)] 52 [(1, .int r)] [] → V cX11_isName RX11 1 60 3 G Γ [(o, S)] 16 [(0, .ref (wA G o 0)), (1, .int l1), (2, .int l2)] [] := by
  intro n
  induction n with
  | zero => intro l1 l2 r hf hx; unfold pX11_isName_l16 at hf; cases hf
  | succ n ih =>
    intro l1 l2 r hf hx
    have hrec : ∀ {l1 : Int32} {l2 : Int32}, pX11_isName_l16  S n l1 l2 = some r → V cX11_isName RX11 1 60 3 G Γ [(o, S)] 16 [(0, .ref (wA G o 0)), (1, .int l1), (2, .int l2)] [] := fun h => ih h hx
    clear ih
    unfold pX11_isName_l16 at hf
    refine v_iload_n (pc := 16) 2 dX11_isName_16 rfl ?_
    refine v_bipush (pc := 17) (22 : Int32) dX11_isName_17 cb_22 ?_
    refine v_icmp_ge (pc := 19) 52 dX11_isName_19 (by decide) (fun c2 => ?_) (fun c2 => ?_)
    · replace hf := it_t c2 hf
      have hf2 := Option.some.inj hf; subst hf2
      exact V_sub [1] rfl hx
    · replace hf := it_f c2 hf
      refine v_iload_n (pc := 22) 1 dX11_isName_22 rfl ?_
      refine v_if_eq (pc := 23) 44 dX11_isName_23 (by decide) (fun c3 => ?_) (fun c3 => ?_)
      · replace hf := it_t c3 hf
        refine v_iconst (pc := 44) (0 : Int32) dX11_isName_44 ci_0 ?_
        refine v_istore_n (pc := 45) [(1, _), (0, _), (2, _)] dX11_isName_45 (Nat.le_of_ble_eq_true rfl) rfl ?_
        refine v_iinc (pc := 46) 2 (l2 + (1 : Int32)) [(2, _), (1, _), (0, _)] dX11_isName_46 rfl (congrArg (fun z => _ + z) ci_1) (Nat.le_of_ble_eq_true rfl) rfl ?_
        refine v_goto (pc := 49) 16 dX11_isName_49 (by decide) ?_
        exact V_sub [2, 1, 0] rfl (hrec hf)
      · replace hf := it_f c3 hf
        refine v_aload_n (pc := 26) 0 dX11_isName_26 rfl ?_
        refine gf_RX11_157 (pc := 27) 0 rfl hk0 dX11_isName_27 ?_
        refine v_aload_n (pc := 30) 0 dX11_isName_30 rfl ?_
        refine gf_RX11_47 (pc := 31) 0 rfl hk0 dX11_isName_31 ?_
        refine v_iload_n (pc := 34) 2 dX11_isName_34 rfl ?_
        replace hf := gd_some hf; obtain ⟨g4, hf⟩ := hf
        refine al_X11_10 (pc := 35) _ 0 rfl hk0 rfl g4 dX11_isName_35 ?_
        refine v_lcmp (pc := 36) dX11_isName_36 ?_
        refine v_if_eq (pc := 37) 44 dX11_isName_37 (by decide) (fun c5 => ?_) (fun c5 => ?_)
        · replace hf := it_t c5 hf
          refine v_iconst (pc := 44) (0 : Int32) dX11_isName_44 ci_0 ?_
          refine v_istore_n (pc := 45) [(1, _), (0, _), (2, _)] dX11_isName_45 (Nat.le_of_ble_eq_true rfl) rfl ?_
          refine v_iinc (pc := 46) 2 (l2 + (1 : Int32)) [(2, _), (1, _), (0, _)] dX11_isName_46 rfl (congrArg (fun z => _ + z) ci_1) (Nat.le_of_ble_eq_true rfl) rfl ?_
          refine v_goto (pc := 49) 16 dX11_isName_49 (by decide) ?_
          exact V_sub [2, 1, 0] rfl (hrec hf)
        · replace hf := it_f c5 hf
          refine v_iconst (pc := 40) (1 : Int32) dX11_isName_40 ci_1 ?_
          refine v_goto (pc := 41) 45 dX11_isName_41 (by decide) ?_
          refine v_istore_n (pc := 45) [(1, _), (0, _), (2, _)] dX11_isName_45 (Nat.le_of_ble_eq_true rfl) rfl ?_
          refine v_iinc (pc := 46) 2 (l2 + (1 : Int32)) [(2, _), (1, _), (0, _)] dX11_isName_46 rfl (congrArg (fun z => _ + z) ci_1) (Nat.le_of_ble_eq_true rfl) rfl ?_
          refine v_goto (pc := 49) 16 dX11_isName_49 (by decide) ?_
          exact V_sub [2, 1, 0] rfl (hrec hf)
set_option maxRecDepth 20000 in
theorem wX11_isName_j13 {G : Wc} {Γ : Cx} {o : Nat} {S : Ob} {s0 : Int32} {r : Int32} (hk0 : kd o = 10) (hF : Fnl G Γ (some .boolean) (some (.int r)) (ov Γ.2.2.2 [(o, S)])) (hf : pX11_isName_j13 S s0 = some r) : V cX11_isName RX11 1 60 3 G Γ [(o, S)] 13 [(0, .ref (wA G o 0))] [.int s0] := by
  unfold pX11_isName_j13 at hf
  refine v_istore_n (pc := 13) [(1, _), (0, _)] dX11_isName_13 (Nat.le_of_ble_eq_true rfl) rfl ?_
  refine v_iconst (pc := 14) (0 : Int32) dX11_isName_14 ci_0 ?_
  refine v_istore_n (pc := 15) [(2, _), (1, _), (0, _)] dX11_isName_15 (Nat.le_of_ble_eq_true rfl) rfl ?_
  replace hf := bd_some hf; obtain ⟨r6, h7, hf⟩ := hf
  refine V_sub [2, 1, 0] rfl (wX11_isName_l16 hk0 fu h7 ?_)
  refine v_iload_n (pc := 52) 0 dX11_isName_52 rfl ?_
  replace hf := gd_some hf; obtain ⟨g8, hf⟩ := hf
  have hf2 := Option.some.inj hf; subst hf2
  exact V_zret (pc := 53) hF g8 dX11_isName_53
set_option maxRecDepth 20000 in
theorem kX11_isName {G : Wc} {o : Nat} {S : Ob}  {r : Int32} (hk0 : kd o = 10) (hf : pX11_isName S   = some r) : Cn yX11_isName cX11_isName 3 (some .boolean) 1 60 G [.ref (wA G o 0)] [(o, S)] [(o, S)] (some (.int r)) := by
  refine V_method [(0, .ref (wA G o 0))] (by decide) rfl (Nat.le_of_ble_eq_true rfl) rfl (fun Γ hF => ?_)
  unfold pX11_isName at hf
  refine v_aload_n (pc := 0) 0 dX11_isName_0 rfl ?_
  refine gf_RX11_144 (pc := 1) 0 rfl hk0 dX11_isName_1 ?_
  refine v_iconst (pc := 4) (1 : Int32) dX11_isName_4 ci_1 ?_
  refine v_icmp_ne (pc := 5) 12 dX11_isName_5 (by decide) (fun c1 => ?_) (fun c1 => ?_)
  · replace hf := it_f c1 hf
    refine v_iconst (pc := 12) (0 : Int32) dX11_isName_12 ci_0 ?_
    exact V_sub [0] rfl (wX11_isName_j13 hk0 hF hf)
  · replace hf := it_t c1 hf
    refine v_iconst (pc := 8) (1 : Int32) dX11_isName_8 ci_1 ?_
    refine v_goto (pc := 9) 13 dX11_isName_9 (by decide) ?_
    exact V_sub [0] rfl (wX11_isName_j13 hk0 hF hf)
set_option maxRecDepth 20000 in
theorem kX11_takes {G : Wc} {o : Nat} {S : Ob} {a : Int32} {b : Int32} {r : Int32 × Ob} (hk0 : kd o = 10) (hf : pX11_takes S  a b = some r) : Cn yX11_takes cX11_takes 3 (some .boolean) 3 103 G [.ref (wA G o 0), .int a, .int b] [(o, S)] [(o, r.2)] (some (.int r.1)) := by
  refine V_method [(0, .ref (wA G o 0)), (1, .int a), (2, .int b)] (by decide) rfl (Nat.le_of_ble_eq_true rfl) rfl (fun Γ hF => ?_)
  unfold pX11_takes at hf
  refine v_aload_n (pc := 0) 0 dX11_takes_0 rfl ?_
  refine gf_RX11_144 (pc := 1) 0 rfl hk0 dX11_takes_1 ?_
  refine v_iconst (pc := 4) (2 : Int32) dX11_takes_4 ci_2 ?_
  refine v_icmp_eq (pc := 5) 14 dX11_takes_5 (by decide) (fun c1 => ?_) (fun c1 => ?_)
  · replace hf := it_t c1 hf
    refine v_aload_n (pc := 14) 0 dX11_takes_14 rfl ?_
    refine gf_RX11_154 (pc := 15) 0 rfl hk0 dX11_takes_15 ?_
    refine v_iload_n (pc := 18) 1 dX11_takes_18 rfl ?_
    refine v_iload_n (pc := 19) 2 dX11_takes_19 rfl ?_
    replace hf := bd_some hf; obtain ⟨r2, h3, hf⟩ := hf
    refine V_callS (pc := 20) (us1 := [_]) [] (kX11_isIn  h3) rfl rfl rfl rfl wm_RX11_176 md_X11_isIn (Nat.le_of_ble_eq_true rfl) (Nat.le_of_ble_eq_true rfl) rfl rfl (Nat.le_of_ble_eq_true rfl) dX11_takes_20 ?_
    refine v_if_ne (pc := 23) 32 dX11_takes_23 (by decide) (fun c4 => ?_) (fun c4 => ?_)
    · replace hf := it_f c4 hf
      refine v_aload_n (pc := 32) 0 dX11_takes_32 rfl ?_
      refine v_aload_n (pc := 33) 0 dX11_takes_33 rfl ?_
      refine gf_RX11_154 (pc := 34) 0 rfl hk0 dX11_takes_34 ?_
      refine pf_RX11_180 (pc := 37) [_] 0 rfl hk0 rfl dX11_takes_37 ?_
      refine v_aload_n (pc := 40) 0 dX11_takes_40 rfl ?_
      replace hf := bd_some hf; obtain ⟨r5, h6, hf⟩ := hf
      refine V_call (pc := 41) (us1 := [_]) [0] 0 (kX11_next (o := o) hk0 h6) rfl rfl rfl rfl rfl hk0 (Nat.le_of_ble_eq_true rfl) rfl rfl rfl wm_RX11_173 md_X11_next (Nat.le_of_ble_eq_true rfl) (Nat.le_of_ble_eq_true rfl) rfl rfl (Nat.le_of_ble_eq_true rfl) dX11_takes_41 ?_
      refine v_iconst (pc := 44) (1 : Int32) dX11_takes_44 ci_1 ?_
      have hf2 := Option.some.inj hf; subst hf2
      exact V_zret (pc := 45) hF rfl dX11_takes_45
    · replace hf := it_t c4 hf
      refine v_aload_n (pc := 26) 0 dX11_takes_26 rfl ?_
      refine v_iconst (pc := 27) (2 : Int32) dX11_takes_27 ci_2 ?_
      replace hf := bd_some hf; obtain ⟨r7, h8, hf⟩ := hf
      refine V_call (pc := 28) (us1 := [_]) [0] 0 (kX11_bad (o := o) hk0 h8) rfl rfl rfl rfl rfl hk0 (Nat.le_of_ble_eq_true rfl) rfl rfl rfl wm_RX11_170 md_X11_bad (Nat.le_of_ble_eq_true rfl) (Nat.le_of_ble_eq_true rfl) rfl rfl (Nat.le_of_ble_eq_true rfl) dX11_takes_28 ?_
      replace hf := gd_some hf; obtain ⟨g9, hf⟩ := hf
      have hf2 := Option.some.inj hf; subst hf2
      exact V_zret (pc := 31) hF g9 dX11_takes_31
  · replace hf := it_f c1 hf
    refine v_aload_n (pc := 8) 0 dX11_takes_8 rfl ?_
    refine v_iconst (pc := 9) (1 : Int32) dX11_takes_9 ci_1 ?_
    replace hf := bd_some hf; obtain ⟨r10, h11, hf⟩ := hf
    refine V_call (pc := 10) (us1 := [_]) [0] 0 (kX11_bad (o := o) hk0 h11) rfl rfl rfl rfl rfl hk0 (Nat.le_of_ble_eq_true rfl) rfl rfl rfl wm_RX11_170 md_X11_bad (Nat.le_of_ble_eq_true rfl) (Nat.le_of_ble_eq_true rfl) rfl rfl (Nat.le_of_ble_eq_true rfl) dX11_takes_10 ?_
    replace hf := gd_some hf; obtain ⟨g12, hf⟩ := hf
    have hf2 := Option.some.inj hf; subst hf2
    exact V_zret (pc := 13) hF g12 dX11_takes_13
set_option maxRecDepth 20000 in
theorem kX11_puts {G : Wc} {o : Nat} {S : Ob} {a : Int32} {b : Int32} {c : Int32} {r : Int32 × Ob} (hk0 : kd o = 10) (hf : pX11_puts S  a b c = some r) : Cn yX11_puts cX11_puts 4 (some .boolean) 4 125 G [.ref (wA G o 0), .int a, .int b, .int c] [(o, S)] [(o, r.2)] (some (.int r.1)) := by
  refine V_method [(0, .ref (wA G o 0)), (1, .int a), (2, .int b), (3, .int c)] (by decide) rfl (Nat.le_of_ble_eq_true rfl) rfl (fun Γ hF => ?_)
  unfold pX11_puts at hf
  refine v_aload_n (pc := 0) 0 dX11_puts_0 rfl ?_
  refine v_iload_n (pc := 1) 2 dX11_puts_1 rfl ?_
  refine v_iload_n (pc := 2) 3 dX11_puts_2 rfl ?_
  replace hf := bd_some hf; obtain ⟨r1, h2, hf⟩ := hf
  refine V_call (pc := 3) (us1 := [_]) [0] 0 (kX11_takes (o := o) hk0 h2) rfl rfl rfl rfl rfl hk0 (Nat.le_of_ble_eq_true rfl) rfl rfl rfl wm_RX11_183 md_X11_takes (Nat.le_of_ble_eq_true rfl) (Nat.le_of_ble_eq_true rfl) rfl rfl (Nat.le_of_ble_eq_true rfl) dX11_puts_3 ?_
  refine v_if_ne (pc := 6) 11 dX11_puts_6 (by decide) (fun c3 => ?_) (fun c3 => ?_)
  · replace hf := it_f c3 hf
    refine v_aload_n (pc := 11) 0 dX11_puts_11 rfl ?_
    refine gf_RX11_37 (pc := 12) 0 rfl hk0 dX11_puts_12 ?_
    refine v_iload_n (pc := 15) 1 dX11_puts_15 rfl ?_
    refine v_aload_n (pc := 16) 0 dX11_puts_16 rfl ?_
    refine gf_RX11_180 (pc := 17) 0 rfl hk0 dX11_puts_17 ?_
    replace hf := gd_some hf; obtain ⟨g4, hf⟩ := hf
    refine as_X11_7 (pc := 20) [_] _ 0 rfl hk0 rfl g4 rfl dX11_puts_20 ?_
    refine v_iconst (pc := 21) (1 : Int32) dX11_puts_21 ci_1 ?_
    have hf2 := Option.some.inj hf; subst hf2
    exact V_zret (pc := 22) hF rfl dX11_puts_22
  · replace hf := it_t c3 hf
    refine v_iconst (pc := 9) (0 : Int32) dX11_puts_9 ci_0 ?_
    have hf2 := Option.some.inj hf; subst hf2
    exact V_zret (pc := 10) hF rfl dX11_puts_10
set_option maxRecDepth 20000 in
theorem wX11_seek_l2 {G : Wc} {Γ : Cx} {o : Nat} {S : Ob} {l1 : Int32} {l2 : Int32} {r : Int32} (hk0 : kd o = 10) (hF : Fnl G Γ (some .int) (some (.int r)) (ov Γ.2.2.2 [(o, S)])) : ∀ (n : Nat) {l3 : Int32}, pX11_seek_l2  S l1 l2 n l3 = some r → V cX11_seek RX11 1 60 4 G Γ [(o, S)] 2 [(0, .ref (wA G o 0)), (1, .int l1), (2, .int l2), (3, .int l3)] [] := by
  intro n
  induction n with
  | zero => intro l3 hf; unfold pX11_seek_l2 at hf; cases hf
  | succ n ih =>
    intro l3 hf
    have hrec : ∀ {l3 : Int32}, pX11_seek_l2  S l1 l2 n l3 = some r → V cX11_seek RX11 1 60 4 G Γ [(o, S)] 2 [(0, .ref (wA G o 0)), (1, .int l1), (2, .int l2), (3, .int l3)] [] := fun h => ih h
    clear ih
    unfold pX11_seek_l2 at hf
    refine v_iload_n (pc := 2) 3 dX11_seek_2 rfl ?_
    refine v_iload_n (pc := 3) 2 dX11_seek_3 rfl ?_
    refine v_icmp_ge (pc := 4) 31 dX11_seek_4 (by decide) (fun c1 => ?_) (fun c1 => ?_)
    · replace hf := it_t c1 hf
      refine v_iconst (pc := 31) (-1 : Int32) dX11_seek_31 ci_m1 ?_
      have hf2 := Option.some.inj hf; subst hf2
      exact V_iret (pc := 32) hF dX11_seek_32
    · replace hf := it_f c1 hf
      refine v_aload_n (pc := 7) 0 dX11_seek_7 rfl ?_
      refine gf_RX11_43 (pc := 8) 0 rfl hk0 dX11_seek_8 ?_
      refine v_iload_n (pc := 11) 1 dX11_seek_11 rfl ?_
      refine v_iload_n (pc := 12) 3 dX11_seek_12 rfl ?_
      refine v_iadd (pc := 13) dX11_seek_13 ?_
      replace hf := gd_some hf; obtain ⟨g2, hf⟩ := hf
      refine al_X11_9 (pc := 14) _ 0 rfl hk0 rfl g2 dX11_seek_14 ?_
      refine v_aload_n (pc := 15) 0 dX11_seek_15 rfl ?_
      refine gf_RX11_157 (pc := 16) 0 rfl hk0 dX11_seek_16 ?_
      refine v_lcmp (pc := 19) dX11_seek_19 ?_
      refine v_if_ne (pc := 20) 25 dX11_seek_20 (by decide) (fun c3 => ?_) (fun c3 => ?_)
      · replace hf := it_f c3 hf
        refine v_iinc (pc := 25) 3 (l3 + (1 : Int32)) [(3, _), (0, _), (1, _), (2, _)] dX11_seek_25 rfl (congrArg (fun z => _ + z) ci_1) (Nat.le_of_ble_eq_true rfl) rfl ?_
        refine v_goto (pc := 28) 2 dX11_seek_28 (by decide) ?_
        exact V_sub [1, 2, 3, 0] rfl (hrec hf)
      · replace hf := it_t c3 hf
        refine v_iload_n (pc := 23) 3 dX11_seek_23 rfl ?_
        have hf2 := Option.some.inj hf; subst hf2
        exact V_iret (pc := 24) hF dX11_seek_24
set_option maxRecDepth 20000 in
theorem kX11_seek {G : Wc} {o : Nat} {S : Ob} {a : Int32} {b : Int32} {r : Int32} (hk0 : kd o = 10) (hf : pX11_seek S  a b = some r) : Cn yX11_seek cX11_seek 4 (some .int) 1 60 G [.ref (wA G o 0), .int a, .int b] [(o, S)] [(o, S)] (some (.int r)) := by
  refine V_method [(0, .ref (wA G o 0)), (1, .int a), (2, .int b)] (by decide) rfl (Nat.le_of_ble_eq_true rfl) rfl (fun Γ hF => ?_)
  unfold pX11_seek at hf
  refine v_iconst (pc := 0) (0 : Int32) dX11_seek_0 ci_0 ?_
  refine v_istore_n (pc := 1) [(3, _), (0, _), (1, _), (2, _)] dX11_seek_1 (Nat.le_of_ble_eq_true rfl) rfl ?_
  exact V_sub [1, 2, 3, 0] rfl (wX11_seek_l2 hk0 hF fu hf)
set_option maxRecDepth 20000 in
theorem wX11_fresh_j58 {G : Wc} {Γ : Cx} {o : Nat} {S : Ob} {r : Int32 × Ob} (hk0 : kd o = 10) (hF : Fnl G Γ (some .boolean) (some (.int r.1)) (ov Γ.2.2.2 [(o, r.2)])) (hf : pX11_fresh_j58 S = some r) : V cX11_fresh RX11 3 103 2 G Γ [(o, S)] 58 [(0, .ref (wA G o 0))] [] := by
  unfold pX11_fresh_j58 at hf
  refine v_aload_n (pc := 58) 0 dX11_fresh_58 rfl ?_
  refine v_iconst (pc := 59) (3 : Int32) dX11_fresh_59 ci_3 ?_
  replace hf := bd_some hf; obtain ⟨r7, h8, hf⟩ := hf
  refine V_call (pc := 60) (us1 := [_]) [0] 0 (kX11_bad (o := o) hk0 h8) rfl rfl rfl rfl rfl hk0 (Nat.le_of_ble_eq_true rfl) rfl rfl rfl wm_RX11_170 md_X11_bad (Nat.le_of_ble_eq_true rfl) (Nat.le_of_ble_eq_true rfl) rfl rfl (Nat.le_of_ble_eq_true rfl) dX11_fresh_60 ?_
  replace hf := gd_some hf; obtain ⟨g9, hf⟩ := hf
  have hf2 := Option.some.inj hf; subst hf2
  exact V_zret (pc := 63) hF g9 dX11_fresh_63
set_option maxRecDepth 20000 in
theorem kX11_fresh {G : Wc} {o : Nat} {S : Ob} {a : Int32} {r : Int32 × Ob} (hk0 : kd o = 10) (hf : pX11_fresh S  a = some r) : Cn yX11_fresh cX11_fresh 2 (some .boolean) 3 103 G [.ref (wA G o 0), .int a] [(o, S)] [(o, r.2)] (some (.int r.1)) := by
  refine V_method [(0, .ref (wA G o 0)), (1, .int a)] (by decide) rfl (Nat.le_of_ble_eq_true rfl) rfl (fun Γ hF => ?_)
  unfold pX11_fresh at hf
  refine v_aload_n (pc := 0) 0 dX11_fresh_0 rfl ?_
  replace hf := bd_some hf; obtain ⟨r1, h2, hf⟩ := hf
  refine V_call (pc := 1) (us1 := [_]) [0] 0 (kX11_isName (o := o) hk0 h2) rfl rfl rfl rfl rfl hk0 (Nat.le_of_ble_eq_true rfl) rfl rfl rfl wm_RX11_187 md_X11_isName (Nat.le_of_ble_eq_true rfl) (Nat.le_of_ble_eq_true rfl) rfl rfl (Nat.le_of_ble_eq_true rfl) dX11_fresh_1 ?_
  refine v_if_ne (pc := 4) 13 dX11_fresh_4 (by decide) (fun c3 => ?_) (fun c3 => ?_)
  · replace hf := it_f c3 hf
    refine v_aload_n (pc := 13) 0 dX11_fresh_13 rfl ?_
    refine v_bipush (pc := 14) (18 : Int32) dX11_fresh_14 cb_18 ?_
    refine v_aload_n (pc := 16) 0 dX11_fresh_16 rfl ?_
    refine gf_RX11_37 (pc := 17) 0 rfl hk0 dX11_fresh_17 ?_
    refine v_iconst (pc := 20) (0 : Int32) dX11_fresh_20 ci_0 ?_
    refine al_X11_7 (pc := 21) 0 0 rfl hk0 rfl ib_0_121 dX11_fresh_21 ?_
    replace hf := bd_some hf; obtain ⟨r4, h5, hf⟩ := hf
    refine V_call (pc := 22) (us1 := [_]) [0] 0 (kX11_seek (o := o) hk0 h5) rfl rfl rfl rfl rfl hk0 (Nat.le_of_ble_eq_true rfl) rfl rfl rfl wm_RX11_191 md_X11_seek (Nat.le_of_ble_eq_true rfl) (Nat.le_of_ble_eq_true rfl) rfl rfl (Nat.le_of_ble_eq_true rfl) dX11_fresh_22 ?_
    refine v_if_ge (pc := 25) 58 dX11_fresh_25 (by decide) (fun c6 => ?_) (fun c6 => ?_)
    · replace hf := it_t c6 hf
      exact V_sub [0] rfl (wX11_fresh_j58 hk0 hF hf)
    · replace hf := it_f c6 hf
      refine v_aload_n (pc := 28) 0 dX11_fresh_28 rfl ?_
      refine v_bipush (pc := 29) (26 : Int32) dX11_fresh_29 cb_26 ?_
      refine v_aload_n (pc := 31) 0 dX11_fresh_31 rfl ?_
      refine gf_RX11_37 (pc := 32) 0 rfl hk0 dX11_fresh_32 ?_
      refine v_iconst (pc := 35) (1 : Int32) dX11_fresh_35 ci_1 ?_
      refine al_X11_7 (pc := 36) 1 0 rfl hk0 rfl ib_1_121 dX11_fresh_36 ?_
      replace hf := bd_some hf; obtain ⟨r10, h11, hf⟩ := hf
      refine V_call (pc := 37) (us1 := [_]) [0] 0 (kX11_seek (o := o) hk0 h11) rfl rfl rfl rfl rfl hk0 (Nat.le_of_ble_eq_true rfl) rfl rfl rfl wm_RX11_191 md_X11_seek (Nat.le_of_ble_eq_true rfl) (Nat.le_of_ble_eq_true rfl) rfl rfl (Nat.le_of_ble_eq_true rfl) dX11_fresh_37 ?_
      refine v_if_ge (pc := 40) 58 dX11_fresh_40 (by decide) (fun c12 => ?_) (fun c12 => ?_)
      · replace hf := it_t c12 hf
        exact V_sub [0] rfl (wX11_fresh_j58 hk0 hF hf)
      · replace hf := it_f c12 hf
        refine v_aload_n (pc := 43) 0 dX11_fresh_43 rfl ?_
        refine v_bipush (pc := 44) (32 : Int32) dX11_fresh_44 cb_32 ?_
        refine v_aload_n (pc := 46) 0 dX11_fresh_46 rfl ?_
        refine gf_RX11_37 (pc := 47) 0 rfl hk0 dX11_fresh_47 ?_
        refine v_iconst (pc := 50) (3 : Int32) dX11_fresh_50 ci_3 ?_
        refine al_X11_7 (pc := 51) 3 0 rfl hk0 rfl ib_3_121 dX11_fresh_51 ?_
        replace hf := bd_some hf; obtain ⟨r13, h14, hf⟩ := hf
        refine V_call (pc := 52) (us1 := [_]) [0] 0 (kX11_seek (o := o) hk0 h14) rfl rfl rfl rfl rfl hk0 (Nat.le_of_ble_eq_true rfl) rfl rfl rfl wm_RX11_191 md_X11_seek (Nat.le_of_ble_eq_true rfl) (Nat.le_of_ble_eq_true rfl) rfl rfl (Nat.le_of_ble_eq_true rfl) dX11_fresh_52 ?_
        refine v_if_lt (pc := 55) 64 dX11_fresh_55 (by decide) (fun c15 => ?_) (fun c15 => ?_)
        · replace hf := it_t c15 hf
          refine v_aload_n (pc := 64) 0 dX11_fresh_64 rfl ?_
          refine gf_RX11_43 (pc := 65) 0 rfl hk0 dX11_fresh_65 ?_
          refine v_iload_n (pc := 68) 1 dX11_fresh_68 rfl ?_
          refine v_aload_n (pc := 69) 0 dX11_fresh_69 rfl ?_
          refine gf_RX11_157 (pc := 70) 0 rfl hk0 dX11_fresh_70 ?_
          replace hf := gd_some hf; obtain ⟨g16, hf⟩ := hf
          refine as_X11_9 (pc := 73) [_] _ 0 rfl hk0 rfl g16 rfl dX11_fresh_73 ?_
          refine v_aload_n (pc := 74) 0 dX11_fresh_74 rfl ?_
          replace hf := bd_some hf; obtain ⟨r17, h18, hf⟩ := hf
          refine V_call (pc := 75) (us1 := [_]) [0] 0 (kX11_next (o := o) hk0 h18) rfl rfl rfl rfl rfl hk0 (Nat.le_of_ble_eq_true rfl) rfl rfl rfl wm_RX11_173 md_X11_next (Nat.le_of_ble_eq_true rfl) (Nat.le_of_ble_eq_true rfl) rfl rfl (Nat.le_of_ble_eq_true rfl) dX11_fresh_75 ?_
          refine v_iconst (pc := 78) (1 : Int32) dX11_fresh_78 ci_1 ?_
          have hf2 := Option.some.inj hf; subst hf2
          exact V_zret (pc := 79) hF rfl dX11_fresh_79
        · replace hf := it_f c15 hf
          exact V_sub [0] rfl (wX11_fresh_j58 hk0 hF hf)
  · replace hf := it_t c3 hf
    refine v_aload_n (pc := 7) 0 dX11_fresh_7 rfl ?_
    refine v_iconst (pc := 8) (1 : Int32) dX11_fresh_8 ci_1 ?_
    replace hf := bd_some hf; obtain ⟨r19, h20, hf⟩ := hf
    refine V_call (pc := 9) (us1 := [_]) [0] 0 (kX11_bad (o := o) hk0 h20) rfl rfl rfl rfl rfl hk0 (Nat.le_of_ble_eq_true rfl) rfl rfl rfl wm_RX11_170 md_X11_bad (Nat.le_of_ble_eq_true rfl) (Nat.le_of_ble_eq_true rfl) rfl rfl (Nat.le_of_ble_eq_true rfl) dX11_fresh_9 ?_
    replace hf := gd_some hf; obtain ⟨g21, hf⟩ := hf
    have hf2 := Option.some.inj hf; subst hf2
    exact V_zret (pc := 12) hF g21 dX11_fresh_12
set_option maxRecDepth 20000 in
theorem kX11_looksAt {G : Wc} {o : Nat} {S : Ob} {a : Int32} {b : Int32} {r : Int32 × Ob} (hk0 : kd o = 10) (hf : pX11_looksAt S  a b = some r) : Cn yX11_looksAt cX11_looksAt 3 (some .boolean) 2 83 G [.ref (wA G o 0), .int a, .int b] [(o, S)] [(o, r.2)] (some (.int r.1)) := by
  refine V_method [(0, .ref (wA G o 0)), (1, .int a), (2, .int b)] (by decide) rfl (Nat.le_of_ble_eq_true rfl) rfl (fun Γ hF => ?_)
  unfold pX11_looksAt at hf
  refine v_aload_n (pc := 0) 0 dX11_looksAt_0 rfl ?_
  replace hf := bd_some hf; obtain ⟨r1, h2, hf⟩ := hf
  refine V_call (pc := 1) (us1 := [_]) [0] 0 (kX11_isName (o := o) hk0 h2) rfl rfl rfl rfl rfl hk0 (Nat.le_of_ble_eq_true rfl) rfl rfl rfl wm_RX11_187 md_X11_isName (Nat.le_of_ble_eq_true rfl) (Nat.le_of_ble_eq_true rfl) rfl rfl (Nat.le_of_ble_eq_true rfl) dX11_looksAt_1 ?_
  refine v_if_ne (pc := 4) 13 dX11_looksAt_4 (by decide) (fun c3 => ?_) (fun c3 => ?_)
  · replace hf := it_f c3 hf
    refine v_aload_n (pc := 13) 0 dX11_looksAt_13 rfl ?_
    refine v_aload_n (pc := 14) 0 dX11_looksAt_14 rfl ?_
    refine v_iload_n (pc := 15) 1 dX11_looksAt_15 rfl ?_
    refine v_iload_n (pc := 16) 2 dX11_looksAt_16 rfl ?_
    replace hf := bd_some hf; obtain ⟨r4, h5, hf⟩ := hf
    refine V_call (pc := 17) (us1 := [_]) [0] 0 (kX11_seek (o := o) hk0 h5) rfl rfl rfl rfl rfl hk0 (Nat.le_of_ble_eq_true rfl) rfl rfl rfl wm_RX11_191 md_X11_seek (Nat.le_of_ble_eq_true rfl) (Nat.le_of_ble_eq_true rfl) rfl rfl (Nat.le_of_ble_eq_true rfl) dX11_looksAt_17 ?_
    refine pf_RX11_180 (pc := 20) [_] 0 rfl hk0 rfl dX11_looksAt_20 ?_
    refine v_aload_n (pc := 23) 0 dX11_looksAt_23 rfl ?_
    refine gf_RX11_180 (pc := 24) 0 rfl hk0 dX11_looksAt_24 ?_
    refine v_if_ge (pc := 27) 38 dX11_looksAt_27 (by decide) (fun c6 => ?_) (fun c6 => ?_)
    · replace hf := it_t c6 hf
      refine v_iconst (pc := 38) (1 : Int32) dX11_looksAt_38 ci_1 ?_
      refine v_goto (pc := 39) 43 dX11_looksAt_39 (by decide) ?_
      have hf2 := Option.some.inj hf; subst hf2
      exact V_zret (pc := 43) hF rfl dX11_looksAt_43
    · replace hf := it_f c6 hf
      refine v_aload_n (pc := 30) 0 dX11_looksAt_30 rfl ?_
      refine v_iconst (pc := 31) (3 : Int32) dX11_looksAt_31 ci_3 ?_
      replace hf := bd_some hf; obtain ⟨r7, h8, hf⟩ := hf
      refine V_call (pc := 32) (us1 := [_]) [0] 0 (kX11_bad (o := o) hk0 h8) rfl rfl rfl rfl rfl hk0 (Nat.le_of_ble_eq_true rfl) rfl rfl rfl wm_RX11_170 md_X11_bad (Nat.le_of_ble_eq_true rfl) (Nat.le_of_ble_eq_true rfl) rfl rfl (Nat.le_of_ble_eq_true rfl) dX11_looksAt_32 ?_
      refine v_if_eq (pc := 35) 42 dX11_looksAt_35 (by decide) (fun c9 => ?_) (fun c9 => ?_)
      · replace hf := it_t c9 hf
        refine v_iconst (pc := 42) (0 : Int32) dX11_looksAt_42 ci_0 ?_
        have hf2 := Option.some.inj hf; subst hf2
        exact V_zret (pc := 43) hF rfl dX11_looksAt_43
      · replace hf := it_f c9 hf
        refine v_iconst (pc := 38) (1 : Int32) dX11_looksAt_38 ci_1 ?_
        refine v_goto (pc := 39) 43 dX11_looksAt_39 (by decide) ?_
        have hf2 := Option.some.inj hf; subst hf2
        exact V_zret (pc := 43) hF rfl dX11_looksAt_43
  · replace hf := it_t c3 hf
    refine v_aload_n (pc := 7) 0 dX11_looksAt_7 rfl ?_
    refine v_iconst (pc := 8) (1 : Int32) dX11_looksAt_8 ci_1 ?_
    replace hf := bd_some hf; obtain ⟨r10, h11, hf⟩ := hf
    refine V_call (pc := 9) (us1 := [_]) [0] 0 (kX11_bad (o := o) hk0 h11) rfl rfl rfl rfl rfl hk0 (Nat.le_of_ble_eq_true rfl) rfl rfl rfl wm_RX11_170 md_X11_bad (Nat.le_of_ble_eq_true rfl) (Nat.le_of_ble_eq_true rfl) rfl rfl (Nat.le_of_ble_eq_true rfl) dX11_looksAt_9 ?_
    replace hf := gd_some hf; obtain ⟨g12, hf⟩ := hf
    have hf2 := Option.some.inj hf; subst hf2
    exact V_zret (pc := 12) hF g12 dX11_looksAt_12
set_option maxRecDepth 20000 in
theorem kX11_takesName {G : Wc} {o : Nat} {S : Ob} {a : Int32} {b : Int32} {r : Int32 × Ob} (hk0 : kd o = 10) (hf : pX11_takesName S  a b = some r) : Cn yX11_takesName cX11_takesName 3 (some .boolean) 3 105 G [.ref (wA G o 0), .int a, .int b] [(o, S)] [(o, r.2)] (some (.int r.1)) := by
  refine V_method [(0, .ref (wA G o 0)), (1, .int a), (2, .int b)] (by decide) rfl (Nat.le_of_ble_eq_true rfl) rfl (fun Γ hF => ?_)
  unfold pX11_takesName at hf
  refine v_aload_n (pc := 0) 0 dX11_takesName_0 rfl ?_
  refine v_iload_n (pc := 1) 1 dX11_takesName_1 rfl ?_
  refine v_iload_n (pc := 2) 2 dX11_takesName_2 rfl ?_
  replace hf := bd_some hf; obtain ⟨r1, h2, hf⟩ := hf
  refine V_call (pc := 3) (us1 := [_]) [0] 0 (kX11_looksAt (o := o) hk0 h2) rfl rfl rfl rfl rfl hk0 (Nat.le_of_ble_eq_true rfl) rfl rfl rfl wm_RX11_195 md_X11_looksAt (Nat.le_of_ble_eq_true rfl) (Nat.le_of_ble_eq_true rfl) rfl rfl (Nat.le_of_ble_eq_true rfl) dX11_takesName_3 ?_
  refine v_if_ne (pc := 6) 11 dX11_takesName_6 (by decide) (fun c3 => ?_) (fun c3 => ?_)
  · replace hf := it_f c3 hf
    refine v_aload_n (pc := 11) 0 dX11_takesName_11 rfl ?_
    replace hf := bd_some hf; obtain ⟨r4, h5, hf⟩ := hf
    refine V_call (pc := 12) (us1 := [_]) [0] 0 (kX11_next (o := o) hk0 h5) rfl rfl rfl rfl rfl hk0 (Nat.le_of_ble_eq_true rfl) rfl rfl rfl wm_RX11_173 md_X11_next (Nat.le_of_ble_eq_true rfl) (Nat.le_of_ble_eq_true rfl) rfl rfl (Nat.le_of_ble_eq_true rfl) dX11_takesName_12 ?_
    refine v_iconst (pc := 15) (1 : Int32) dX11_takesName_15 ci_1 ?_
    have hf2 := Option.some.inj hf; subst hf2
    exact V_zret (pc := 16) hF rfl dX11_takesName_16
  · replace hf := it_t c3 hf
    refine v_iconst (pc := 9) (0 : Int32) dX11_takesName_9 ci_0 ?_
    have hf2 := Option.some.inj hf; subst hf2
    exact V_zret (pc := 10) hF rfl dX11_takesName_10
set_option maxRecDepth 20000 in
theorem kX11_readBed {G : Wc} {o : Nat} {S : Ob}  {r : Int32 × Ob} (hk0 : kd o = 10) (hf : pX11_readBed S   = some r) : Cn yX11_readBed cX11_readBed 2 (some .boolean) 5 148 G [.ref (wA G o 0)] [(o, S)] [(o, r.2)] (some (.int r.1)) := by
  refine V_method [(0, .ref (wA G o 0))] (by decide) rfl (Nat.le_of_ble_eq_true rfl) rfl (fun Γ hF => ?_)
  unfold pX11_readBed at hf
  refine v_aload_n (pc := 0) 0 dX11_readBed_0 rfl ?_
  refine gf_RX11_37 (pc := 1) 0 rfl hk0 dX11_readBed_1 ?_
  refine v_iconst (pc := 4) (3 : Int32) dX11_readBed_4 ci_3 ?_
  refine al_X11_7 (pc := 5) 3 0 rfl hk0 rfl ib_3_121 dX11_readBed_5 ?_
  refine v_istore_n (pc := 6) [(1, _), (0, _)] dX11_readBed_6 (Nat.le_of_ble_eq_true rfl) rfl ?_
  refine v_iload_n (pc := 7) 0 dX11_readBed_7 rfl ?_
  refine v_iconst (pc := 8) (4 : Int32) dX11_readBed_8 ci_4 ?_
  refine v_icmp_ne (pc := 9) 18 dX11_readBed_9 (by decide) (fun c1 => ?_) (fun c1 => ?_)
  · replace hf := it_f c1 hf
    refine v_aload_n (pc := 18) 1 dX11_readBed_18 rfl ?_
    replace hf := bd_some hf; obtain ⟨r2, h3, hf⟩ := hf
    refine V_call (pc := 19) (us1 := [_]) [0] 0 (kX11_next (o := o) hk0 h3) rfl rfl rfl rfl rfl hk0 (Nat.le_of_ble_eq_true rfl) rfl rfl rfl wm_RX11_173 md_X11_next (Nat.le_of_ble_eq_true rfl) (Nat.le_of_ble_eq_true rfl) rfl rfl (Nat.le_of_ble_eq_true rfl) dX11_readBed_19 ?_
    refine v_aload_n (pc := 22) 1 dX11_readBed_22 rfl ?_
    refine v_bipush (pc := 23) (32 : Int32) dX11_readBed_23 cb_32 ?_
    refine v_iload_n (pc := 25) 0 dX11_readBed_25 rfl ?_
    refine v_iadd (pc := 26) dX11_readBed_26 ?_
    replace hf := bd_some hf; obtain ⟨r4, h5, hf⟩ := hf
    refine V_call (pc := 27) (us1 := [_]) [0] 0 (kX11_fresh (o := o) hk0 h5) rfl rfl rfl rfl rfl hk0 (Nat.le_of_ble_eq_true rfl) rfl rfl rfl wm_RX11_224 md_X11_fresh (Nat.le_of_ble_eq_true rfl) (Nat.le_of_ble_eq_true rfl) rfl rfl (Nat.le_of_ble_eq_true rfl) dX11_readBed_27 ?_
    refine v_if_eq (pc := 30) 47 dX11_readBed_30 (by decide) (fun c6 => ?_) (fun c6 => ?_)
    · replace hf := it_t c6 hf
      refine v_iconst (pc := 47) (0 : Int32) dX11_readBed_47 ci_0 ?_
      have hf2 := Option.some.inj hf; subst hf2
      exact V_zret (pc := 48) hF rfl dX11_readBed_48
    · replace hf := it_f c6 hf
      refine v_aload_n (pc := 33) 1 dX11_readBed_33 rfl ?_
      refine v_bipush (pc := 34) (117 : Int32) dX11_readBed_34 cb_117 ?_
      refine v_iload_n (pc := 36) 0 dX11_readBed_36 rfl ?_
      refine v_iadd (pc := 37) dX11_readBed_37 ?_
      refine v_iconst (pc := 38) (1 : Int32) dX11_readBed_38 ci_1 ?_
      refine v_bipush (pc := 39) (99 : Int32) dX11_readBed_39 cb_99 ?_
      replace hf := bd_some hf; obtain ⟨r7, h8, hf⟩ := hf
      refine V_call (pc := 41) (us1 := [_]) [0] 0 (kX11_puts (o := o) hk0 h8) rfl rfl rfl rfl rfl hk0 (Nat.le_of_ble_eq_true rfl) rfl rfl rfl wm_RX11_221 md_X11_puts (Nat.le_of_ble_eq_true rfl) (Nat.le_of_ble_eq_true rfl) rfl rfl (Nat.le_of_ble_eq_true rfl) dX11_readBed_41 ?_
      refine v_if_ne (pc := 44) 49 dX11_readBed_44 (by decide) (fun c9 => ?_) (fun c9 => ?_)
      · replace hf := it_f c9 hf
        refine v_aload_n (pc := 49) 1 dX11_readBed_49 rfl ?_
        refine gf_RX11_37 (pc := 50) 0 rfl hk0 dX11_readBed_50 ?_
        refine v_iconst (pc := 53) (3 : Int32) dX11_readBed_53 ci_3 ?_
        refine v_dup2 (pc := 54) dX11_readBed_54 rfl rfl ?_
        refine al_X11_7 (pc := 55) 3 0 rfl hk0 rfl ib_3_121 dX11_readBed_55 ?_
        refine v_iconst (pc := 56) (1 : Int32) dX11_readBed_56 ci_1 ?_
        refine v_iadd (pc := 57) dX11_readBed_57 ?_
        refine as_X11_7 (pc := 58) [_] 3 0 rfl hk0 rfl ib_3_121 rfl dX11_readBed_58 ?_
        refine v_iconst (pc := 59) (1 : Int32) dX11_readBed_59 ci_1 ?_
        have hf2 := Option.some.inj hf; subst hf2
        exact V_zret (pc := 60) hF rfl dX11_readBed_60
      · replace hf := it_t c9 hf
        refine v_iconst (pc := 47) (0 : Int32) dX11_readBed_47 ci_0 ?_
        have hf2 := Option.some.inj hf; subst hf2
        exact V_zret (pc := 48) hF rfl dX11_readBed_48
  · replace hf := it_t c1 hf
    refine v_aload_n (pc := 12) 1 dX11_readBed_12 rfl ?_
    refine v_iconst (pc := 13) (4 : Int32) dX11_readBed_13 ci_4 ?_
    replace hf := bd_some hf; obtain ⟨r10, h11, hf⟩ := hf
    refine V_call (pc := 14) (us1 := [_]) [0] 0 (kX11_bad (o := o) hk0 h11) rfl rfl rfl rfl rfl hk0 (Nat.le_of_ble_eq_true rfl) rfl rfl rfl wm_RX11_170 md_X11_bad (Nat.le_of_ble_eq_true rfl) (Nat.le_of_ble_eq_true rfl) rfl rfl (Nat.le_of_ble_eq_true rfl) dX11_readBed_14 ?_
    replace hf := gd_some hf; obtain ⟨g12, hf⟩ := hf
    have hf2 := Option.some.inj hf; subst hf2
    exact V_zret (pc := 17) hF g12 dX11_readBed_17
