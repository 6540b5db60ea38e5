/-! acts, and acts undone -/
theorem gW_day {N : Nat} {g : Nat → Nat} (hQ : WQ g) (hW : WS N g) {x n : Nat} (hx : x < 6) : gW g x n 121 = g 121 := by
  have key : ∀ (i o : Nat) {h : Nat → Nat}, WQ h → WS N h → gL x n i o h 121 = h 121 := by
    intro i
    induction i with
    | zero => intro o h _ _; rfl
    | succ i ih =>
      intro o h hQ hW
      rw [gL]
      split
      · next c =>
        have h0 := w_g0 hQ
        have ht := gT_lt hW (q := x) (by omega) c.1
        have e := gD_sm (g := h) (i := gI h x) (q := x) (by omega) (by omega)
        rw [ih _ (WQ.of e hQ) (ws_draw hQ hW (by omega) c.1 (gI_le hW x).2)]
        exact (gD_at (by omega) (by omega)).1 121 (by omega)
      · rfl
  show gP _ _ _ 121 = _
  unfold gP
  rw [uv_ne (by omega), uv_ne (by omega)]
  exact key 8 0 hQ hW
/-- the reference's unit behind keep() -/
def kpM (M : Ob) (g : Nat → Nat) (m : Nat) : Ob := sI (sA (sI M 0 (0 : Int32)) 21 (ku (oA M 21) (Nf g) m)) 23 (nI (min (m + 1) 8))
section
variable {N : Nat} {V0 V1 V2 V3 V4 V5 V8 V9 V10 V12 V13 M O : Ob} {K IM IQ IS IN : Nat → Ob} {g nn : Nat → Nat}
theorem st_keep (c1 : WQ g) (c2 : WS N g) (c3 : g 121 ≤ 400) (c4 : oA M 6 = Nf g) (c6 : SR V3 g) (hP : PR N V5 K M g) : ∃ m V5' K', m ≤ 8 ∧ oA (kpM M g m) 6 = Nf g ∧ pX2_keep V5 V3 K = some (V5', K') ∧ pX11_keep (sI M 0 (0 : Int32)) = some (kpM M g m) ∧ ∀ M', oI M' 23 = nI (min (m + 1) 8) → oA M' 21 = ku (oA M 21) (Nf g) m → PR N V5' K' M' g := by
  obtain ⟨m, hm, e, ⟨r1, r2⟩, x1, x2⟩ := c_keep c1 c2 c3 c6 hP c4
  refine ⟨m, r1, r2, hm, c4, x1, ?_, x2⟩
  have k := r_keep (M := sI M 0 (0 : Int32)) hm e
  rw [k]
  unfold kpM
  have a1 : oA (sI M 0 (0 : Int32)) 21 = oA M 21 := rfl
  have a2 : oA (sI M 0 (0 : Int32)) 6 = Nf g := c4
  rw [a1, a2]
theorem st_stroke (H : RE N V0 V1 V2 V3 V4 V5 V9 V10 V12 K IM IQ IS IN M O) (a b : Int32) : ∃ o V3' V5' K' M', pX10_stroke V0 V2 V3 V5 K a b = some (o, V3', V5', K') ∧ pX11_stroke M a b = some (o, M') ∧ RE (N + 360) V0 V1 V2 V3' V4 V5' V9 V10 V12 K' IM IQ IS IN M' O := by
  obtain ⟨g, nn, H⟩ := H
  have H0 := H
  obtain ⟨⟨c1, c2, c3, c4, c5, c6, c7, c8⟩, hT, hP, hE, hA, hF, hB, hG, hC, hI, hO⟩ := H
  have g0 := w_g0 c1
  have g1 := w_g1 c1
  have g3 := w_g3 c1
  have c4' : oA (sI M 0 (0 : Int32)) 6 = Nf g := c4
  unfold pX10_stroke pX11_stroke
  rcases p_isP (V0 := V0) c1 c5 c4' a with ⟨x1, x2⟩ | ⟨q, hq, rfl, x1, x2⟩
  · exact ⟨(-1 : Int32), V3, V5, K, sI M 0 (0 : Int32), by rw [x1, e_bd, if_pos l_0.symm], by rw [x2, e_bd, if_pos l_0.symm], H0.s0 _⟩
  · rw [x1, x2, e_bd, e_bd, if_neg n1_ne, if_neg n1_ne]
    rcases in_c b 1 20 (by omega) (by omega) with ⟨y1, y2⟩ | ⟨y1, y2, y3⟩ | ⟨n, n1, n2, rfl, y1, y2, y3⟩
    · have y2' : pX11_isIn b (1 : Int32) (20 : Int32) = some (nI 0) := y2
      exact ⟨(-1 : Int32), V3, V5, K, sI M 0 (0 : Int32), by rw [if_pos (show b < 1 from y1)], by rw [y2', e_bd, if_pos l_0.symm], H0.s0 _⟩
    · have y3' : pX11_isIn b (1 : Int32) (20 : Int32) = some (nI 0) := y3
      exact ⟨(-1 : Int32), V3, V5, K, sI M 0 (0 : Int32), by rw [if_neg (show ¬ b < 1 from y1), if_neg (show ¬ b ≤ (20 : Int32) from y2)], by rw [y3', e_bd, if_pos l_0.symm], H0.s0 _⟩
    · have y3' : pX11_isIn (nI n) (1 : Int32) (20 : Int32) = some (nI 1) := y3
      have cw := c_why c1 c2 c5 c6 (n := n) hq (by omega)
      have rw_ := r_why c1 c2 c4' (n := n) hq (by omega)
      have w4 := wy_le g q n
      rw [if_neg (show ¬ nI n < 1 from y1), if_pos (show nI n ≤ (20 : Int32) from y2), cw, e_bd, y3', e_bd, if_neg n1_ne, rw_, e_bd]
      by_cases c : wy g q n = 0
      · obtain ⟨k1, k2, k3, k4⟩ := wy_0 c
        obtain ⟨m, V5', K', hm, k6, kc, kr, kp⟩ := st_keep c1 c2 c3 c4 c6 hP
        obtain ⟨S', s1, s2, _⟩ := c_stroke c1 c2 c5 c6 (n := n) hq (by omega)
        have s3 := r_stroke c1 c2 k6 (q := q) (n := n) (by omega) (by omega)
        obtain ⟨s4, s5⟩ := ws_stroke c1 c2 hq k4
        have z : nI 0 ≤ (0 : Int32) := Int32.le_refl _
        refine ⟨nI 0, S', V5', K', sA (kpM M g m) 6 (Nf (gW g q n)), ?_, ?_, ?_⟩
        · rw [c, if_pos l_0.symm, kc, e_bd, s1, e_bd]
        · rw [c, if_pos z, kr, e_bd, s3, e_bd]; rfl
        · exact ⟨gW g q n, nn, H0.act (by omega) ⟨rfl, rfl, rfl, rfl, rfl, rfl, rfl, rfl, rfl, rfl, rfl, rfl, rfl, rfl, rfl, rfl, rfl, rfl, rfl⟩ rfl s5 (s4.mono (by omega)) (by rw [gW_day c1 c2 (by omega)]; exact c3) s2 (kp _ rfl rfl) hO⟩
      · have nz : ¬ nI (wy g q n) = (0 : Int32) := fun e => c ((nI_eq (by omega) (by omega)).mp (show nI (wy g q n) = nI 0 from e))
        have nz2 : ¬ nI (wy g q n) ≤ (0 : Int32) := nI_ge (show 0 < wy g q n by omega) (by omega)
        exact ⟨nI (wy g q n), V3, V5, K, sI M 0 (0 : Int32), by rw [if_neg nz], by rw [if_neg nz2], H0.s0 _⟩
theorem st_cut (H : RE N V0 V1 V2 V3 V4 V5 V9 V10 V12 K IM IQ IS IN M O) (a : Int32) : ∃ o V3' V5' K' M', pX10_cut V0 V2 V3 V5 K a = some (o, V3', V5', K') ∧ pX11_cut M a = some (o, M') ∧ RE (N + 360) V0 V1 V2 V3' V4 V5' V9 V10 V12 K' IM IQ IS IN M' O := by
  obtain ⟨g, nn, H⟩ := H
  have H0 := H
  obtain ⟨⟨c1, c2, c3, c4, c5, c6, c7, c8⟩, hT, hP, hE, hA, hF, hB, hG, hC, hI, hO⟩ := H
  have g0 := w_g0 c1
  have g1 := w_g1 c1
  have g3 := w_g3 c1
  have c4' : oA (sI M 0 (0 : Int32)) 6 = Nf g := c4
  unfold pX10_cut pX11_cut
  rcases p_isP (V0 := V0) c1 c5 c4' a with ⟨x1, x2⟩ | ⟨q, hq, rfl, x1, x2⟩
  · exact ⟨(-1 : Int32), V3, V5, K, sI M 0 (0 : Int32), by rw [x1, e_bd, if_pos l_0.symm], by rw [x2, e_bd, if_pos l_0.symm], H0.s0 _⟩
  · have q6 : q < 6 := by omega
    have hL := w_long c2 q6
    have i1 : inB ((125 : Int32) + nI q) 390 = true := by rw [l_125, nI_add]; exact e_in (by omega) (by omega)
    have e1 : oA (sI M 0 (0 : Int32)) 6 ((125 : Int32) + nI q).toNatClampNeg = nI (g (125 + q)) := by rw [l_125, nI_add, e_cl (by omega), c4', Nf_app]
    have s1 := s_1 c6 q q6
    unfold pX6_whyNoCut
    rw [x1, x2, e_bd, e_bd, if_neg n1_ne, if_neg n1_ne, i1, e_gd, e1, e_in q6 (by omega), e_gd, e_cl (by omega), s1]
    by_cases c : g (125 + q) = 0
    · exact ⟨(1 : Int32), V3, V5, K, sI M 0 (0 : Int32), by rw [c, if_pos l_0.symm, e_bd, if_neg (show ¬ (1 : Int32) = 0 by decide)], by rw [c, if_pos l_0.symm], H0.s0 _⟩
    · have nz : ¬ nI (g (125 + q)) = (0 : Int32) := fun e => c ((nI_eq (by omega) (by omega)).mp (show nI (g (125 + q)) = nI 0 from e))
      obtain ⟨m, V5', K', hm, k6, kc, kr, kp⟩ := st_keep c1 c2 c3 c4 c6 hP
      obtain ⟨S', s1, s2, _⟩ := c_cut c1 c2 c6 (q := q) q6 (by omega)
      have s3 := r_cut c1 c2 k6 (q := q) q6 (by omega)
      have ht := gT_lt c2 (q := q) q6 (by omega)
      have dd : gK g q 121 ≤ 400 := by
        unfold gK
        rw [uv_ne (by omega), (gD_at q6 (by omega)).1 121 (by omega)]; exact c3
      refine ⟨(0 : Int32), S', V5', K', sA (kpM M g m) 6 (Nf (gK g q)), ?_, ?_, ?_⟩
      · rw [if_neg nz, e_bd, if_pos rfl, kc, e_bd, s1, e_bd]
      · rw [if_neg nz, kr, e_bd, s3, e_bd]
      · exact ⟨gK g q, nn, H0.act (by omega) ⟨rfl, rfl, rfl, rfl, rfl, rfl, rfl, rfl, rfl, rfl, rfl, rfl, rfl, rfl, rfl, rfl, rfl, rfl, rfl⟩ rfl (gK_sm q6 (by omega)) ((ws_cut c1 c2 q6 (by omega)).mono (by omega)) dd s2 (kp _ rfl rfl) hO⟩
theorem st_snag (H : RE N V0 V1 V2 V3 V4 V5 V9 V10 V12 K IM IQ IS IN M O) (a b : Int32) : ∃ o V3' V5' K' M', pX10_snag V0 V2 V3 V5 K a b = some (o, V3', V5', K') ∧ pX11_snag M a b = some (o, M') ∧ RE (N + 360) V0 V1 V2 V3' V4 V5' V9 V10 V12 K' IM IQ IS IN M' O := by
  obtain ⟨g, nn, H⟩ := H
  have H0 := H
  obtain ⟨⟨c1, c2, c3, c4, c5, c6, c7, c8⟩, hT, hP, hE, hA, hF, hB, hG, hC, hI, hO⟩ := H
  have g0 := w_g0 c1
  have g1 := w_g1 c1
  have g3 := w_g3 c1
  have c4' : oA (sI M 0 (0 : Int32)) 6 = Nf g := c4
  unfold pX10_snag pX11_snag
  rcases p_isP (V0 := V0) c1 c5 c4' a with ⟨x1, x2⟩ | ⟨q, hq, rfl, x1, x2⟩
  · exact ⟨(-1 : Int32), V3, V5, K, sI M 0 (0 : Int32), by rw [x1, e_bd, if_pos l_0.symm], by rw [x2, e_bd, if_pos l_0.symm], H0.s0 _⟩
  · rw [x1, x2, e_bd, e_bd, if_neg n1_ne, if_neg n1_ne]
    rcases p_isT (V0 := V0) c1 c5 c4' b with ⟨x1, x2⟩ | ⟨t, ht, rfl, x1, x2⟩
    · exact ⟨(-1 : Int32), V3, V5, K, sI M 0 (0 : Int32), by rw [x1, e_bd, if_pos l_0.symm], by rw [x2, e_bd, if_pos l_0.symm], H0.s0 _⟩
    · have q6 : q < 6 := by omega
      have hL := w_long c2 q6
      have cn := c_nest c2 c6 q6
      have rn_ := r_nest c2 c4' q6
      unfold pX6_whyNoCatch
      rw [x1, x2, e_bd, e_bd, if_neg n1_ne, if_neg n1_ne, cn, e_bd, rn_, e_bd]
      by_cases c : g (125 + q) = 8
      · have hns : ns g q = true := decide_eq_true c
        rw [hns, b01_t]
        exact ⟨(1 : Int32), V3, V5, K, sI M 0 (0 : Int32), by rw [if_neg n1_ne, e_bd, if_neg (by decide)], by rw [if_neg n1_ne], H0.s0 _⟩
      · have hns : ns g q = false := decide_eq_false c
        rw [hns, b01_f]
        obtain ⟨m, V5', K', hm, k6, kc, kr, kp⟩ := st_keep c1 c2 c3 c4 c6 hP
        obtain ⟨S', s1, s2, _⟩ := c_catch c2 c6 (q := q) (t := t) q6 (by omega)
        have s3 := r_catch c2 k6 (q := q) (t := t) q6 (by omega)
        refine ⟨(0 : Int32), S', V5', K', sA (kpM M g m) 6 (Nf (gC g q t)), ?_, ?_, ?_⟩
        · rw [if_pos l_0.symm, e_bd, if_pos rfl, kc, e_bd, s1, e_bd]
        · rw [if_pos l_0.symm, kr, e_bd, s3, e_bd]
        · exact ⟨gC g q t, nn, H0.act (by omega) ⟨rfl, rfl, rfl, rfl, rfl, rfl, rfl, rfl, rfl, rfl, rfl, rfl, rfl, rfl, rfl, rfl, rfl, rfl, rfl⟩ rfl (gC_sm q6 (by omega)) ((ws_catch c1 c2 q6 ht (by omega)).mono (by omega)) (by rw [gC_day q6 (by omega)]; exact c3) s2 (kp _ rfl rfl) hO⟩
theorem st_stuff (H : RE N V0 V1 V2 V3 V4 V5 V9 V10 V12 K IM IQ IS IN M O) (a b : Int32) : ∃ o V3' V5' K' M', pX10_stuff V0 V2 V3 V5 K a b = some (o, V3', V5', K') ∧ pX11_stuff M a b = some (o, M') ∧ RE (N + 360) V0 V1 V2 V3' V4 V5' V9 V10 V12 K' IM IQ IS IN M' O := by
  obtain ⟨g, nn, H⟩ := H
  have H0 := H
  obtain ⟨⟨c1, c2, c3, c4, c5, c6, c7, c8⟩, hT, hP, hE, hA, hF, hB, hG, hC, hI, hO⟩ := H
  have g0 := w_g0 c1
  have g1 := w_g1 c1
  have g3 := w_g3 c1
  have c4' : oA (sI M 0 (0 : Int32)) 6 = Nf g := c4
  unfold pX10_stuff pX11_stuff
  rcases p_isB (V0 := V0) c1 c5 c4' a with ⟨x1, x2⟩ | ⟨q, hq, rfl, x1, x2⟩
  · exact ⟨(-1 : Int32), V3, V5, K, sI M 0 (0 : Int32), by rw [x1, e_bd, if_pos l_0.symm], by rw [x2, e_bd, if_pos l_0.symm], H0.s0 _⟩
  · rw [x1, x2, e_bd, e_bd, if_neg n1_ne, if_neg n1_ne]
    rcases p_isT (V0 := V0) c1 c5 c4' b with ⟨x1, x2⟩ | ⟨t, ht, rfl, x1, x2⟩
    · exact ⟨(-1 : Int32), V3, V5, K, sI M 0 (0 : Int32), by rw [x1, e_bd, if_pos l_0.symm], by rw [x2, e_bd, if_pos l_0.symm], H0.s0 _⟩
    · have q4 : q < 4 := by omega
      have t8 : t < 8 := by omega
      have hb10 : g (185 + t) ≤ 10 := Nat.le_trans (sm_ge (fun t => g (185 + t)) (i := t) (n := 8) (by omega)) c2.2.2.2.1
      have i1 : inB ((185 : Int32) + nI t) 390 = true := by rw [l_185, nI_add]; exact e_in (by omega) (by omega)
      have e1 : oA (sI M 0 (0 : Int32)) 6 ((185 : Int32) + nI t).toNatClampNeg = nI (g (185 + t)) := by rw [l_185, nI_add, e_cl (by omega), c4', Nf_app]
      have s1 := s_3 c6 t t8
      unfold pX6_whyNoStuffing
      rw [x1, x2, e_bd, e_bd, if_neg n1_ne, if_neg n1_ne, i1, e_gd, e1, e_in t8 (by omega), e_gd, e_cl (by omega), s1]
      by_cases c : g (185 + t) = 0
      · exact ⟨(1 : Int32), V3, V5, K, sI M 0 (0 : Int32), by rw [c, if_pos l_0.symm, e_bd, if_neg (by decide)], by rw [c, if_pos l_0.symm], H0.s0 _⟩
      · have nz : ¬ nI (g (185 + t)) = (0 : Int32) := fun e => c ((nI_eq (by omega) (by omega)).mp (show nI (g (185 + t)) = nI 0 from e))
        obtain ⟨m, V5', K', hm, k6, kc, kr, kp⟩ := st_keep c1 c2 c3 c4 c6 hP
        obtain ⟨S', s1, s2, _⟩ := c_stuff c1 c2 c5 c6 (b := q) (t := t) q4 ht (by omega)
        have s3 := r_stuff k6 (b := q) (t := t) q4 t8 (by omega)
        refine ⟨(0 : Int32), S', V5', K', sA (kpM M g m) 6 (Nf (gS g q t)), ?_, ?_, ?_⟩
        · rw [if_neg nz, e_bd, if_pos rfl, kc, e_bd, s1, e_bd]
        · rw [if_neg nz, kr, e_bd, s3, e_bd]
        · exact ⟨gS g q t, nn, H0.act (by omega) ⟨rfl, rfl, rfl, rfl, rfl, rfl, rfl, rfl, rfl, rfl, rfl, rfl, rfl, rfl, rfl, rfl, rfl, rfl, rfl⟩ rfl (gS_sm q4 t8) ((ws_stuff c1 c2 q4 ht (by omega)).mono (by omega)) (by rw [(gS_at q4 t8).1 121 (by omega)]; exact c3) s2 (kp _ rfl rfl) hO⟩
theorem st_left {n d : Nat} (hn : n < 1000) (hd : d ≤ 400) (e : oI V3 8 = nI d) : pX6_daysLeft V3 = some (nI (400 - d)) ∧ (if nI (400 - d) < nI n then nI (400 - d) else nI n) = nI (min n (400 - d)) := by
  constructor
  · unfold pX6_daysLeft
    simp (disch := omega) only [l_0, l_1, l_2, l_3, l_4, l_5, l_6, l_7, l_8, l_9, l_10, l_11, l_12, l_13, l_14, l_15, l_16, l_17, l_18, l_19, l_20, l_21, l_22, l_23, l_24, l_25, l_26, l_27, l_28, l_29, l_30, l_31, l_32, l_33, l_34, l_35, l_36, l_40, l_41, l_48, l_56, l_57, l_59, l_60, l_61, l_62, l_63, l_79, l_81, l_88, l_93, l_97, l_99, l_105, l_117, l_121, l_122, l_125, l_127, l_131, l_179, l_185, l_193, l_197, l_200, l_201, l_210, l_255, l_390, l_400, l_616, l_900, l_940, l_999, l_1000, l_1024, e_ltT, e_ltF, e_leT, e_leF, e_eqT, e_eqF, e_cl, e_in, e_gd, e_bd, e_ne, e_en, e_nlt, e_ltn, e_len, e_nle, e_nn, e_z0, e_z1, nI_add, pk_mul, e_sub, Nf_app, e_refl, e_reflN, reduceIte, ite_true_, ite_false_, e]
  · by_cases c : 400 - d < n
    · rw [if_pos (nI_lt c (by omega)), show min n (400 - d) = 400 - d by omega]
    · rw [if_neg (nI_nlt (by omega) (by omega)), show min n (400 - d) = n by omega]
theorem st_days (H : RE N V0 V1 V2 V3 V4 V5 V9 V10 V12 K IM IQ IS IN M O) (a : Int32) : ∃ o V3' V5' K' M', pX10_days V0 V3 V5 K V2 a = some (o, V3', V5', K') ∧ pX11_days M a = some (o, M') ∧ RE (N + 360) V0 V1 V2 V3' V4 V5' V9 V10 V12 K' IM IQ IS IN M' O := by
  obtain ⟨g, nn, H⟩ := H
  have H0 := H
  obtain ⟨⟨c1, c2, c3, c4, c5, c6, c7, c8⟩, hT, hP, hE, hA, hF, hB, hG, hC, hI, hO⟩ := H
  have g0 := w_g0 c1
  have g1 := w_g1 c1
  have g3 := w_g3 c1
  have c4' : oA (sI M 0 (0 : Int32)) 6 = Nf g := c4
  unfold pX10_days pX11_days
  rcases in_c a 1 60 (by omega) (by omega) with ⟨y1, y2⟩ | ⟨y1, y2, y3⟩ | ⟨n, n1, n2, rfl, y1, y2, y3⟩
  · have y2' : pX11_isIn a (1 : Int32) (60 : Int32) = some (nI 0) := y2
    exact ⟨(-1 : Int32), V3, V5, K, sI M 0 (0 : Int32), by rw [if_pos (show a < 1 from y1)], by rw [y2', e_bd, if_pos l_0.symm], H0.s0 _⟩
  · have y3' : pX11_isIn a (1 : Int32) (60 : Int32) = some (nI 0) := y3
    exact ⟨(-1 : Int32), V3, V5, K, sI M 0 (0 : Int32), by rw [if_neg (show ¬ a < 1 from y1), if_neg (show ¬ a ≤ (60 : Int32) from y2)], by rw [y3', e_bd, if_pos l_0.symm], H0.s0 _⟩
  · have y3' : pX11_isIn (nI n) (1 : Int32) (60 : Int32) = some (nI 1) := y3
    obtain ⟨d1, d2⟩ := st_left (V3 := V3) (n := n) (by omega) c3 (s_8 c6)
    have e121 : oA (sI M 0 (0 : Int32)) 6 121 = nI (g 121) := by rw [c4', Nf_app]
    rw [if_neg (show ¬ nI n < 1 from y1), if_pos (show nI n ≤ (60 : Int32) from y2), d1, e_bd, d2, y3', e_bd, if_neg n1_ne, e121]
    by_cases c : g 121 = 400
    · have z : nI (min n (400 - g 121)) ≤ (0 : Int32) := by rw [show min n (400 - g 121) = 0 by omega]; exact Int32.le_refl _
      exact ⟨nI (min n (400 - g 121)), V3, V5, K, sI M 0 (0 : Int32), by rw [if_pos z], by rw [if_pos (show nI (g 121) = (400 : Int32) by rw [c]; rfl), show min n (400 - g 121) = 0 by omega]; rfl, H0.s0 _⟩
    · have z : ¬ nI (min n (400 - g 121)) ≤ (0 : Int32) := nI_ge (show 0 < min n (400 - g 121) by omega) (by omega)
      have z2 : ¬ nI (g 121) = (400 : Int32) := fun e => c ((nI_eq (by omega) (by omega)).mp (show nI (g 121) = nI 400 from e))
      obtain ⟨m, V5', K', hm, k6, kc, kr, kp⟩ := st_keep c1 c2 c3 c4 c6 hP
      obtain ⟨S', s1, s2, _⟩ := c_days (n := min n (400 - g 121)) (by omega) c1 c2 c5 c6 (by omega)
      have s3 := r_goesOn (n := n) (by omega) c1 c2 k6 c3
      obtain ⟨s4, s5, s6⟩ := gN_ok (min n (400 - g 121)) c1 c2
      refine ⟨nI (min n (400 - g 121)), S', V5', K', sA (kpM M g m) 6 (Nf (gN (min n (400 - g 121)) g)), ?_, ?_, ?_⟩
      · rw [if_neg z, kc, e_bd, s1, e_bd]
      · rw [if_neg z2, kr, e_bd, s3, e_bd]
      · exact ⟨gN (min n (400 - g 121)) g, nn, H0.act (by omega) ⟨rfl, rfl, rfl, rfl, rfl, rfl, rfl, rfl, rfl, rfl, rfl, rfl, rfl, rfl, rfl, rfl, rfl, rfl, rfl⟩ rfl s5 (s4.mono (by omega)) (by omega) s2 (kp _ rfl rfl) hO⟩
theorem st_drawn (H : RE N V0 V1 V2 V3 V4 V5 V9 V10 V12 K IM IQ IS IN M O) (a b : Int32) : ∃ o V3' V5' K' M', pX10_drawn V0 V3 V5 K V2 a b = some (o, V3', V5', K') ∧ pX11_drawn M a b = some (o, M') ∧ RE (N + 360) V0 V1 V2 V3' V4 V5' V9 V10 V12 K' IM IQ IS IN M' O := by
  obtain ⟨g, nn, H⟩ := H
  have H0 := H
  obtain ⟨⟨c1, c2, c3, c4, c5, c6, c7, c8⟩, hT, hP, hE, hA, hF, hB, hG, hC, hI, hO⟩ := H
  have g0 := w_g0 c1
  have g1 := w_g1 c1
  have g3 := w_g3 c1
  have c4' : oA (sI M 0 (0 : Int32)) 6 = Nf g := c4
  unfold pX10_drawn pX11_drawn
  rcases in_c a 1 60 (by omega) (by omega) with ⟨y1, y2⟩ | ⟨y1, y2, y3⟩ | ⟨n, n1, n2, rfl, y1, y2, y3⟩
  · have y2' : pX11_isIn a (1 : Int32) (60 : Int32) = some (nI 0) := y2
    exact ⟨(-1 : Int32), V3, V5, K, sI M 0 (0 : Int32), by rw [if_pos (show a < 1 from y1)], by rw [y2', e_bd, if_pos l_0.symm], H0.s0 _⟩
  · have y3' : pX11_isIn a (1 : Int32) (60 : Int32) = some (nI 0) := y3
    exact ⟨(-1 : Int32), V3, V5, K, sI M 0 (0 : Int32), by rw [if_neg (show ¬ a < 1 from y1), if_neg (show ¬ a ≤ (60 : Int32) from y2)], by rw [y3', e_bd, if_pos l_0.symm], H0.s0 _⟩
  · have y3' : pX11_isIn (nI n) (1 : Int32) (60 : Int32) = some (nI 1) := y3
    obtain ⟨d1, d2⟩ := st_left (V3 := V3) (n := n) (by omega) c3 (s_8 c6)
    have e121 : oA (sI M 0 (0 : Int32)) 6 121 = nI (g 121) := by rw [c4', Nf_app]
    rw [if_neg (show ¬ nI n < 1 from y1), if_pos (show nI n ≤ (60 : Int32) from y2), d1, e_bd, d2, y3', e_bd, if_neg n1_ne, e121]
    unfold pX11_drawn_j34
    by_cases c : g 121 = 400
    · have z : nI (min n (400 - g 121)) ≤ (0 : Int32) := by rw [show min n (400 - g 121) = 0 by omega]; exact Int32.le_refl _
      have s3 := r_chances (n := n) (by omega) c1 c2 c4' b c3
      have m0 : min n (400 - g 121) = 0 := by omega
      refine ⟨nI (min n (400 - g 121)), V3, V5, K, sI (sA (sI M 0 (0 : Int32)) 6 (Nf (gX (min n (400 - g 121)) g b).1)) 35 (gX (min n (400 - g 121)) g b).2, by rw [if_pos z], ?_, ?_⟩
      · rw [if_pos (show (400 : Int32) ≤ nI (g 121) by rw [c]; exact Int32.le_refl _), s3, e_bd]
      · refine H0.same (by omega) ⟨rfl, rfl, rfl, rfl, rfl, rfl, rfl, rfl, rfl, rfl, rfl, rfl, rfl, rfl, rfl, rfl, rfl, rfl, rfl⟩ ?_ rfl rfl hO
        rw [m0, c4]; rfl
    · have z : ¬ nI (min n (400 - g 121)) ≤ (0 : Int32) := nI_ge (show 0 < min n (400 - g 121) by omega) (by omega)
      have z2 : ¬ (400 : Int32) ≤ nI (g 121) := show ¬ nI 400 ≤ nI (g 121) from nI_ge (by omega) (by omega)
      obtain ⟨m, V5', K', hm, k6, kc, kr, kp⟩ := st_keep c1 c2 c3 c4 c6 hP
      obtain ⟨S', s1, s2⟩ := c_chances (n := min n (400 - g 121)) (by omega) c1 c2 c5 c6 b (by omega)
      have s3 := r_chances (n := n) (by omega) c1 c2 k6 b c3
      obtain ⟨s4, s5, s6⟩ := gX_ok (min n (400 - g 121)) b c1 c2
      refine ⟨nI (min n (400 - g 121)), S', V5', K', sI (sA (kpM M g m) 6 (Nf (gX (min n (400 - g 121)) g b).1)) 35 (gX (min n (400 - g 121)) g b).2, ?_, ?_, ?_⟩
      · rw [if_neg z, kc, e_bd, s1, e_bd]
      · rw [if_neg z2, kr, e_bd, s3, e_bd]
      · exact ⟨(gX (min n (400 - g 121)) g b).1, nn, H0.act (by omega) ⟨rfl, rfl, rfl, rfl, rfl, rfl, rfl, rfl, rfl, rfl, rfl, rfl, rfl, rfl, rfl, rfl, rfl, rfl, rfl⟩ rfl s5 (s4.mono (by omega)) (by omega) s2 (kp _ rfl rfl) hO⟩
theorem st_undo (H : RE N V0 V1 V2 V3 V4 V5 V9 V10 V12 K IM IQ IS IN M O) : ∃ o V5' V3' M', pX10_undo V0 V5 V3 K = some (o, V5', V3') ∧ pX11_undo M = some (o, M') ∧ RE (N + 360) V0 V1 V2 V3' V4 V5' V9 V10 V12 K IM IQ IS IN M' O := by
  obtain ⟨g, nn, H⟩ := H
  have H0 := H
  obtain ⟨⟨c1, c2, c3, c4, c5, c6, c7, c8⟩, hT, hP, hE, hA, hF, hB, hG, hC, hI, hO⟩ := H
  have g0 := w_g0 c1
  have g1 := w_g1 c1
  have g3 := w_g3 c1
  have c4' : oA (sI M 0 (0 : Int32)) 6 = Nf g := c4
  obtain ⟨m, x, hm, hx, e1, e2, e3, hj⟩ := id hP
  have e23 : oI (sI M 0 (0 : Int32)) 23 = nI m := e1
  unfold pX10_undo pX2_takeBack pX11_undo
  rw [e23, e2, e3]
  by_cases c : m = 0
  · exact ⟨(-1 : Int32), V5, V3, sI M 0 (0 : Int32), by rw [c, if_pos l_0.symm, e_bd], by rw [c, if_pos l_0.symm], H0.s0 _⟩
  · have nz : ¬ nI m = (0 : Int32) := fun e => c ((nI_eq (by omega) (by omega)).mp (show nI m = nI 0 from e))
    obtain ⟨h, b1, b2, b3, b4, b5⟩ := hj (m - 1) (by omega)
    have ei : (x + 8 - m + (m - 1)) % 8 = (x + 7) % 8 := by omega
    rw [ei] at b4
    have hr1 : nI x + (8 : Int32) - (1 : Int32) - (nI x + (8 : Int32) - (1 : Int32)) / (8 : Int32) * (8 : Int32) = nI ((x + 7) % 8) := by
      rw [l_8, l_1, nI_add, e_sub (by omega), pk_rem (by omega) (by omega) (by omega)]
      rfl
    obtain ⟨W, w1, w2⟩ := c_copy (S := V3) b2 (WQ.of b1 c1) b4
    have x8 : (x + 7) % 8 < 8 := Nat.mod_lt _ (by omega)
    have ul := r_undo_l (sI (sI M 0 (0 : Int32)) 23 (nI (m - 1))) (m := m - 1) (by omega) (by rw [oI_sI, if_pos rfl]) (Nf g) fu 0 (by omega) (by rw [fu_eq]; omega)
    have se : sA (sI (sI M 0 (0 : Int32)) 23 (nI (m - 1))) 6 (Nf g) = sI (sI M 0 (0 : Int32)) 23 (nI (m - 1)) := by
      have := sA_self (sI (sI M 0 (0 : Int32)) 23 (nI (m - 1))) 6
      rw [show oA (sI (sI M 0 (0 : Int32)) 23 (nI (m - 1))) 6 = Nf g from c4] at this
      exact this
    have row : cpn (oA M 21) (Nf g) 121 (88 * (m - 1)) 88 = Nf h := funext fun k => by
      by_cases d : 121 ≤ k ∧ k < 209
      · rw [cpn_in (by omega) (by omega), b5 _ (by omega), Nf_app, show 121 + (k - 121) = k by omega]
      · rw [cpn_out (by omega), Nf_app, Nf_app, b1 k (by omega)]
    rw [cpn_0, se] at ul
    have ul' : pX11_undo_l26 fu (0 : Int32) (sI (sI M 0 (0 : Int32)) 23 (nI (m - 1))) = some (sA (sI (sI M 0 (0 : Int32)) 23 (nI (m - 1))) 6 (Nf h)) := by
      rw [← row]; exact ul
    have m1 : nI m - (1 : Int32) = nI (m - 1) := by rw [l_1, e_sub (by omega)]
    refine ⟨nI (m - 1), sI (sI V5 1 (nI ((x + 7) % 8))) 2 (nI (m - 1)), W, sA (sI (sI M 0 (0 : Int32)) 23 (nI (m - 1))) 6 (Nf h), ?_, ?_, ?_⟩
    · rw [if_neg nz, hr1, e_in x8 (by omega), e_gd, e_gd, e_cl (by omega), w1, e_bd, e_bd, oI_sI, oI_sI, if_neg (show ¬ 2 = 1 by omega), e2, m1]
      rfl
    · rw [if_neg nz, m1, ul', e_bd]; rfl
    · refine ⟨h, nn, H0.act (by omega) ⟨rfl, rfl, rfl, rfl, rfl, rfl, rfl, rfl, rfl, rfl, rfl, rfl, rfl, rfl, rfl, rfl, rfl, rfl, rfl⟩ rfl b1 (b2.mono (by omega)) b3 w2 ?_ hO⟩
      refine ⟨m - 1, (x + 7) % 8, by omega, x8, rfl, rfl, rfl, fun j hjm => ?_⟩
      obtain ⟨i, d1, d2, d3, d4, d5⟩ := hj j (by omega)
      refine ⟨i, d1, d2, d3, ?_, d5⟩
      rw [show ((x + 7) % 8 + 8 - (m - 1) + j) % 8 = (x + 8 - m + j) % 8 by omega]
      exact d4
end
