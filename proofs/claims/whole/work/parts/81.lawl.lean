/-! the law's loop: it answers 1 on every script -/
theorem RE.up {N : Nat} {V0 V1 V2 V3 V4 V5 V9 V10 V12 M O : Ob} {K IM IQ IS IN : Nat → Ob} (H : RE N V0 V1 V2 V3 V4 V5 V9 V10 V12 K IM IQ IS IN M O) : RE (N + 360) V0 V1 V2 V3 V4 V5 V9 V10 V12 K IM IQ IS IN M O := by
  obtain ⟨g, nn, H⟩ := H
  have H0 := H
  obtain ⟨⟨c1, c2, c3, c4, c5, c6, c7, c8⟩, hT, hP, hE, hA, hF, hB, hG, hC, hI, hO⟩ := H
  have g0 := w_g0 c1
  have g1 := w_g1 c1
  have g3 := w_g3 c1
  have c4' : oA (sI M 0 (0 : Int32)) 6 = Nf g := c4
  exact H0.same (by omega) ⟨rfl, rfl, rfl, rfl, rfl, rfl, rfl, rfl, rfl, rfl, rfl, rfl, rfl, rfl, rfl, rfl, rfl, rfl, rfl⟩ rfl rfl rfl hO
theorem sub6_int {n : Nat} (hn : n < 100000) : (nI n - nI 6).toInt = (n : Int) - 6 := by
  rw [pk_sub_toInt (by omega) (by omega)]
  rfl
set_option maxRecDepth 100000 in
set_option maxHeartbeats 4000000 in
theorem law_l (xs : Nat → Int32) {Ln : Nat} (hL : Ln ≤ 3072) : ∀ (n i N : Nat) {V0 V1 V2 V3 V4 V5 V8 V9 V10 V11 V12 V13 : Ob} {K IM IQ IS IN : Nat → Ob} {M O : Ob}, 0 < n → Ln < i + 6 * n → i ≤ Ln + 6 → N = 60 * i → RE N V0 V1 V2 V3 V4 V5 V9 V10 V12 K IM IQ IS IN M O → pL_law_l23 xs Ln n (nI i) V0 V1 V2 V3 V4 V5 V8 V9 V10 V11 V12 V13 K IM IQ IS IN M O = some 1
  | 0, _, _, _, _, _, _, _, _, _, _, _, _, _, _, _, _, _, _, _, _, _, h, _, _, _, _ => by omega
  | n + 1, i, N, V0, V1, V2, V3, V4, V5, V8, V9, V10, V11, V12, V13, K, IM, IQ, IS, IN, M, O, _, h2, h3, h4, H => by
    rw [pL_law_l23]
    by_cases hc : Ln < i + 6
    · have c : Int32.ofNat Ln - (6 : Int32) < nI i := by
        show nI Ln - nI 6 < nI i
        rw [Int32.lt_iff_toInt_lt, sub6_int (by omega), nI_toInt (by omega)]
        omega
      rw [if_pos c]
    · have c : ¬ Int32.ofNat Ln - (6 : Int32) < nI i := by
        show ¬ nI Ln - nI 6 < nI i
        rw [Int32.lt_iff_toInt_lt, sub6_int (by omega), nI_toInt (by omega)]
        omega
      have b0 : inB (nI i) Ln = true := e_in (by omega) (by omega)
      have b1 : inB (nI i + (1 : Int32)) Ln = true := by rw [l_1, nI_add]; exact e_in (by omega) (by omega)
      have b2 : inB (nI i + (2 : Int32)) Ln = true := by rw [l_2, nI_add]; exact e_in (by omega) (by omega)
      have b3 : inB (nI i + (3 : Int32)) Ln = true := by rw [l_3, nI_add]; exact e_in (by omega) (by omega)
      have b4 : inB (nI i + (4 : Int32)) Ln = true := by rw [l_4, nI_add]; exact e_in (by omega) (by omega)
      have b5 : inB (nI i + (5 : Int32)) Ln = true := by rw [l_5, nI_add]; exact e_in (by omega) (by omega)
      have e6 : nI i + (6 : Int32) = nI (i + 6) := by rw [l_6, nI_add]
      have ih := fun {V0 V1 V2 V3 V4 V5 V8 V9 V10 V11 V12 V13 : Ob} {K IM IQ IS IN : Nat → Ob} {M O : Ob} (re : RE (N + 360) V0 V1 V2 V3 V4 V5 V9 V10 V12 K IM IQ IS IN M O) => law_l xs hL n (i + 6) (N + 360) (V8 := V8) (V11 := V11) (V13 := V13) (by omega) (by omega) (by omega) (by omega) re
      rw [if_neg c]
      simp only [b0, b1, b2, b3, b4, b5, e6, e_gd]
      generalize xs (nI i + (1 : Int32)).toNatClampNeg = a1
      generalize xs (nI i + (2 : Int32)).toNatClampNeg = a2
      generalize xs (nI i + (3 : Int32)).toNatClampNeg = a3
      generalize xs (nI i + (4 : Int32)).toNatClampNeg = a4
      generalize xs (nI i + (5 : Int32)).toNatClampNeg = a5
      generalize xs (nI i).toNatClampNeg &&& (63 : Int32) = cd
      by_cases c0 : cd = (0 : Int32)
      · obtain ⟨o, V1', M', x1, x2, re⟩ := st_feed  H a1 a2 a3 a4 a5
        rw [if_pos c0, x1, e_bd, x2, e_bd]
        refine (if_pos rfl).trans ?_
        exact ih re
      rw [if_neg c0]
      by_cases c1 : cd = (1 : Int32)
      · obtain ⟨o, V1', M', x1, x2, re⟩ := st_end  H a1
        rw [if_pos c1, x1, e_bd, x2, e_bd]
        refine (if_pos rfl).trans ?_
        exact ih re
      rw [if_neg c1]
      by_cases c2 : cd = (2 : Int32)
      · obtain ⟨o, V0', V11', V1', V13', V2', V3', V4', V5', M', x1, x2, re⟩ := st_quarter (V11 := V11) (V13 := V13) H
        rw [if_pos c2, x1, e_bd, x2, e_bd]
        refine (if_pos rfl).trans ?_
        exact ih re
      rw [if_neg c2]
      by_cases c3 : cd = (3 : Int32)
      · obtain ⟨o, M', x1, x2, re⟩ := st_fault  H
        rw [if_pos c3, x1, e_bd, x2, e_bd]
        refine (if_pos rfl).trans ?_
        exact ih re
      rw [if_neg c3]
      by_cases c4 : cd = (4 : Int32)
      · obtain ⟨t, r, O', M', x1, x2, x3, x4, x5, re⟩ := st_person H a1 a2
        rw [if_pos c4, x1, e_bd, x2, e_bd]
        unfold pX11_thrown
        rw [e_bd]
        refine (if_pos x3).trans ?_
        by_cases t0 : t = 0
        · refine (if_pos t0).trans ?_
          rw [show decide (oI (t, O').2 1 = 1) = true from decide_eq_true x4, e_gd]
          refine (if_pos (x5 t0)).trans ?_
          exact ih re
        · refine (if_neg t0).trans ?_
          exact ih re
      rw [if_neg c4]
      by_cases c5 : cd = (5 : Int32)
      · obtain ⟨o, M', x1, x2, re⟩ := st_layer  H a1 a2
        rw [if_pos c5, x1, e_bd, x2, e_bd]
        refine (if_pos rfl).trans ?_
        exact ih re
      rw [if_neg c5]
      by_cases c6 : cd = (6 : Int32)
      · obtain ⟨o, M', x1, x2, re⟩ := st_thing  H a1 a2
        rw [if_pos c6, x1, e_bd, x2, e_bd]
        refine (if_pos rfl).trans ?_
        exact ih re
      rw [if_neg c6]
      by_cases c7 : cd = (7 : Int32)
      · obtain ⟨o, M', x1, x2, re⟩ := st_bed  H (by omega) a1 a2
        rw [if_pos c7, x1, e_bd, x2, e_bd]
        refine (if_pos rfl).trans ?_
        exact ih re
      rw [if_neg c7]
      by_cases c8 : cd = (8 : Int32)
      · obtain ⟨o, M', x1, x2, re⟩ := st_now  H (by omega) a1
        rw [if_pos c8, x1, e_bd, x2, e_bd]
        refine (if_pos rfl).trans ?_
        exact ih re
      rw [if_neg c8]
      by_cases c9 : cd = (9 : Int32)
      · obtain ⟨o, V3', V5', K', M', x1, x2, re⟩ := st_stroke  H a1 a2
        rw [if_pos c9, x1, e_bd, x2, e_bd]
        refine (if_pos rfl).trans ?_
        exact ih re
      rw [if_neg c9]
      by_cases c10 : cd = (10 : Int32)
      · obtain ⟨o, V3', V5', K', M', x1, x2, re⟩ := st_cut  H a1
        rw [if_pos c10, x1, e_bd, x2, e_bd]
        refine (if_pos rfl).trans ?_
        exact ih re
      rw [if_neg c10]
      by_cases c11 : cd = (11 : Int32)
      · obtain ⟨o, V3', V5', K', M', x1, x2, re⟩ := st_snag  H a1 a2
        rw [if_pos c11, x1, e_bd, x2, e_bd]
        refine (if_pos rfl).trans ?_
        exact ih re
      rw [if_neg c11]
      by_cases c12 : cd = (12 : Int32)
      · obtain ⟨o, V3', V5', K', M', x1, x2, re⟩ := st_stuff  H a1 a2
        rw [if_pos c12, x1, e_bd, x2, e_bd]
        refine (if_pos rfl).trans ?_
        exact ih re
      rw [if_neg c12]
      by_cases c13 : cd = (13 : Int32)
      · obtain ⟨o, V3', V5', K', M', x1, x2, re⟩ := st_days  H a1
        rw [if_pos c13, x1, e_bd, x2, e_bd]
        refine (if_pos rfl).trans ?_
        exact ih re
      rw [if_neg c13]
      by_cases c14 : cd = (14 : Int32)
      · obtain ⟨o, V5', V3', M', x1, x2, re⟩ := st_undo  H
        rw [if_pos c14, x1, e_bd, x2, e_bd]
        refine (if_pos rfl).trans ?_
        exact ih re
      rw [if_neg c14]
      by_cases c15 : cd = (15 : Int32)
      · obtain ⟨o, M', x1, x2, re⟩ := st_ease (V8 := V8) H a1
        rw [if_pos c15, x1, e_bd, x2, e_bd]
        refine (if_pos rfl).trans ?_
        exact ih re
      rw [if_neg c15]
      by_cases c16 : cd = (16 : Int32)
      · obtain ⟨o, M', x1, x2, re⟩ := st_nests (V8 := V8) H a1
        rw [if_pos c16, x1, e_bd, x2, e_bd]
        refine (if_pos rfl).trans ?_
        exact ih re
      rw [if_neg c16]
      by_cases c17 : cd = (17 : Int32)
      · obtain ⟨o, V0', V8', M', x1, x2, re⟩ := st_round (V8 := V8) H a1
        rw [if_pos c17, x1, e_bd, x2, e_bd]
        refine (if_pos rfl).trans ?_
        exact ih re
      rw [if_neg c17]
      by_cases c18 : cd = (18 : Int32)
      · obtain ⟨o, M', x1, x2, re⟩ := st_rounded  H
        rw [if_pos c18, x1, e_bd, x2, e_bd]
        refine (if_pos rfl).trans ?_
        exact ih re
      rw [if_neg c18]
      by_cases c19 : cd = (19 : Int32)
      · obtain ⟨o, V0', V8', M', x1, x2, re⟩ := st_beds (V8 := V8) H (by omega)
        rw [if_pos c19, x1, e_bd, x2, e_bd]
        refine (if_pos rfl).trans ?_
        exact ih re
      rw [if_neg c19]
      by_cases c20 : cd = (20 : Int32)
      · obtain ⟨o, M', x1, x2, re⟩ := st_bedded  H
        rw [if_pos c20, x1, e_bd, x2, e_bd]
        refine (if_pos rfl).trans ?_
        exact ih re
      rw [if_neg c20]
      by_cases c21 : cd = (21 : Int32)
      · obtain ⟨o, V0', V1', M', x1, x2, re⟩ := st_fits (V8 := V8) H
        rw [if_pos c21, x1, e_bd, x2, e_bd]
        refine (if_pos rfl).trans ?_
        exact ih re
      rw [if_neg c21]
      by_cases c22 : cd = (22 : Int32)
      · obtain ⟨o, M', x1, x2, re⟩ := st_ask  H
        rw [if_pos c22, x1, e_bd, x2, e_bd]
        refine (if_pos rfl).trans ?_
        exact ih re
      rw [if_neg c22]
      by_cases c23 : cd = (23 : Int32)
      · obtain ⟨o, M', x1, x2, re⟩ := st_like  H a1
        rw [if_pos c23, x1, e_bd, x2, e_bd]
        refine (if_pos rfl).trans ?_
        exact ih re
      rw [if_neg c23]
      by_cases c24 : cd = (24 : Int32)
      · obtain ⟨o, M', x1, x2, re⟩ := st_hardest  H
        rw [if_pos c24, x1, e_bd, x2, e_bd]
        refine (if_pos rfl).trans ?_
        exact ih re
      rw [if_neg c24]
      by_cases c25 : cd = (25 : Int32)
      · obtain ⟨t, r, O', M', x1, x2, x3, x4, x5, re⟩ := st_mean H a1 a2
        rw [if_pos c25, x1, e_bd, x2, e_bd]
        unfold pX11_thrown
        rw [e_bd]
        refine (if_pos x3).trans ?_
        by_cases t0 : t = 0
        · refine (if_pos t0).trans ?_
          rw [show decide (oI (t, O').2 1 = 1) = true from decide_eq_true x4, e_gd]
          refine (if_pos (x5 t0)).trans ?_
          exact ih re
        · refine (if_neg t0).trans ?_
          exact ih re
      rw [if_neg c25]
      by_cases c26 : cd = (26 : Int32)
      · obtain ⟨o, V10', M', x1, x2, re⟩ := st_tag  H a1
        rw [if_pos c26, x1, e_bd, x2, e_bd]
        refine (if_pos rfl).trans ?_
        exact ih re
      rw [if_neg c26]
      by_cases c27 : cd = (27 : Int32)
      · obtain ⟨o, M', x1, x2, re⟩ := st_byteAt  H a1
        rw [if_pos c27, x1, e_bd, x2, e_bd]
        refine (if_pos rfl).trans ?_
        exact ih re
      rw [if_neg c27]
      by_cases c28 : cd = (28 : Int32)
      · obtain ⟨o, V3', V5', K', M', x1, x2, re⟩ := st_drawn  H a1 a2
        rw [if_pos c28, x1, e_bd, x2, e_bd]
        refine (if_pos rfl).trans ?_
        exact ih re
      rw [if_neg c28]
      by_cases c29 : cd = (29 : Int32)
      · obtain ⟨o, V13', M', x1, x2, re⟩ := st_odds (V13 := V13) H a1 a2 a3
        rw [if_pos c29, x1, e_bd, x2, e_bd]
        refine (if_pos rfl).trans ?_
        exact ih re
      rw [if_neg c29]
      by_cases c30 : cd = (30 : Int32)
      · obtain ⟨o, V0', V9', V1', V13', V3', V5', K', M', x1, x2, re⟩ := st_book (V13 := V13) H a1
        rw [if_pos c30, x1, e_bd, x2, e_bd]
        refine (if_pos rfl).trans ?_
        exact ih re
      rw [if_neg c30]
      by_cases c31 : cd = (31 : Int32)
      · obtain ⟨o, M', x1, x2, re⟩ := st_told  H a1
        rw [if_pos c31, x1, e_bd, x2, e_bd]
        refine (if_pos rfl).trans ?_
        exact ih re
      rw [if_neg c31]
      by_cases c32 : cd = (32 : Int32)
      · obtain ⟨o, V0', V12', V1', V4', M', x1, x2, re⟩ := st_sentence  H
        rw [if_pos c32, x1, e_bd, x2, e_bd]
        refine (if_pos rfl).trans ?_
        exact ih re
      rw [if_neg c32]
      by_cases c33 : cd = (33 : Int32)
      · obtain ⟨o, M', x1, x2, re⟩ := st_said  H a1
        rw [if_pos c33, x1, e_bd, x2, e_bd]
        refine (if_pos rfl).trans ?_
        exact ih re
      rw [if_neg c33]
      by_cases c34 : cd = (34 : Int32)
      · obtain ⟨o, IM', IQ', IS', IN', M', x1, x2, re⟩ := st_image  H a1
        rw [if_pos c34, x1, e_bd, x2, e_bd]
        refine (if_pos rfl).trans ?_
        exact ih re
      rw [if_neg c34]
      by_cases c35 : cd = (35 : Int32)
      · obtain ⟨o, V2', V3', V4', V5', M', x1, x2, re⟩ := st_restore  H a1
        rw [if_pos c35, x1, e_bd, x2, e_bd]
        refine (if_pos rfl).trans ?_
        exact ih re
      rw [if_neg c35]
      by_cases c36 : cd = (36 : Int32)
      · obtain ⟨o, M', x1, x2, re⟩ := st_count  H a1
        rw [if_pos c36, x1, e_bd, x2, e_bd]
        refine (if_pos rfl).trans ?_
        exact ih re
      rw [if_neg c36]
      exact ih H.up
