/-! the calls, one by one: both answer the same, and have the same in common again. Questions -/
theorem n1_ne : ¬ nI 1 = (0 : Int32) := by decide
section
variable {N : Nat} {V0 V1 V2 V3 V4 V5 V8 V9 V10 V12 M O : Ob} {K IM IQ IS IN : Nat → Ob}
theorem st_fault (H : RE N V0 V1 V2 V3 V4 V5 V9 V10 V12 K IM IQ IS IN M O) : ∃ o M', pX10_fault V0 = some o ∧ pX11_fault M = some (o, M') ∧ RE (N + 360) V0 V1 V2 V3 V4 V5 V9 V10 V12 K IM IQ IS IN M' O := by
  obtain ⟨g, nn, H⟩ := H
  have H0 := H
  obtain ⟨⟨c1, c2, c3, c4, c5, c6, c7, c8⟩, hT, hP, hE, hA, hF, hB, hG, hC, hI, hO⟩ := H
  have g0 := w_g0 c1
  have g1 := w_g1 c1
  have g3 := w_g3 c1
  have c4' : oA (sI M 0 (0 : Int32)) 6 = Nf g := c4
  refine ⟨oI V0 12, sI M 0 (0 : Int32), rfl, ?_, H0.s0 _⟩
  unfold pX11_fault
  rw [hF.1]; rfl
theorem st_layer (H : RE N V0 V1 V2 V3 V4 V5 V9 V10 V12 K IM IQ IS IN M O) (a b : Int32) : ∃ o M', pX10_layer V0 V2 V3 a b = some o ∧ pX11_layer M a b = some (o, M') ∧ RE (N + 360) V0 V1 V2 V3 V4 V5 V9 V10 V12 K IM IQ IS IN M' O := by
  obtain ⟨g, nn, H⟩ := H
  have H0 := H
  obtain ⟨⟨c1, c2, c3, c4, c5, c6, c7, c8⟩, hT, hP, hE, hA, hF, hB, hG, hC, hI, hO⟩ := H
  have g0 := w_g0 c1
  have g1 := w_g1 c1
  have g3 := w_g3 c1
  have c4' : oA (sI M 0 (0 : Int32)) 6 = Nf g := c4
  unfold pX10_layer pX11_layer
  rcases p_isP (V0 := V0) c1 c5 c4' a with ⟨x1, x2⟩ | ⟨q, hq, rfl, x1, x2⟩
  · exact ⟨(-1 : Int32), sI M 0 (0 : Int32), by rw [x1, e_bd, if_pos l_0.symm], by rw [x2, e_bd, if_pos l_0.symm], H0.s0 _⟩
  · have l8 := c2.1 q (by omega)
    have s1 := s_1 c6 q (by omega)
    have e1 : oA (sI M 0 (0 : Int32)) 6 ((125 : Int32) + nI q).toNatClampNeg = nI (g (125 + q)) := by rw [l_125, nI_add, e_cl (by omega), c4', Nf_app]
    have i1 : inB ((125 : Int32) + nI q) 390 = true := by rw [l_125, nI_add]; exact e_in (by omega) (by omega)
    rcases in_p b (g (125 + q)) (by omega) with ⟨y1, y2⟩ | ⟨y1, y2, y3⟩ | ⟨j, j1, rfl, y1, y2, y3⟩
    · refine ⟨(-1 : Int32), sI M 0 (0 : Int32), ?_, ?_, H0.s0 _⟩
      · unfold pX6_layerAt
        rw [x1, e_bd, if_neg n1_ne, if_pos (show b < 0 from y1), e_bd]
      · rw [x2, e_bd, if_neg n1_ne, i1, e_gd, e1, l_1, l_0, y2, e_bd, if_pos rfl]
    · refine ⟨(-1 : Int32), sI M 0 (0 : Int32), ?_, ?_, H0.s0 _⟩
      · have z : ¬ b < oA V3 1 (nI q).toNatClampNeg := by
          rw [e_cl (by omega), s1]
          rw [Int32.le_iff_toInt_le] at y2
          rw [Int32.lt_iff_toInt_lt]
          omega
        unfold pX6_layerAt
        rw [x1, e_bd, if_neg n1_ne, if_neg (show ¬ b < 0 from y1), e_in (show q < 6 by omega) (by omega), e_gd, if_neg z, e_bd]
      · rw [x2, e_bd, if_neg n1_ne, i1, e_gd, e1, l_1, l_0, y3, e_bd, if_pos rfl]
    · refine ⟨nI (g (131 + 8 * q + j)), sI M 0 (0 : Int32), ?_, ?_, H0.s0 _⟩
      · rw [x1, e_bd, if_neg n1_ne, c_layer c2 c6 (by omega) j1, e_bd]
      · rw [x2, e_bd, if_neg n1_ne, i1, e_gd, e1, l_1, l_0, y3, e_bd, if_neg (show ¬ nI 1 = nI 0 by decide)]
        simp (disch := omega) only [l_0, l_1, l_2, l_3, l_4, l_5, l_6, l_7, l_8, l_9, l_10, l_11, l_12, l_13, l_14, l_15, l_16, l_17, l_18, l_19, l_20, l_21, l_22, l_23, l_24, l_25, l_26, l_27, l_28, l_29, l_30, l_31, l_32, l_33, l_34, l_35, l_36, l_40, l_41, l_48, l_56, l_57, l_59, l_60, l_61, l_62, l_63, l_79, l_81, l_88, l_93, l_97, l_99, l_105, l_117, l_121, l_122, l_125, l_127, l_131, l_179, l_185, l_193, l_197, l_200, l_201, l_210, l_255, l_390, l_400, l_616, l_900, l_940, l_999, l_1000, l_1024, e_ltT, e_ltF, e_leT, e_leF, e_eqT, e_eqF, e_cl, e_in, e_gd, e_bd, e_ne, e_en, e_nlt, e_ltn, e_len, e_nle, e_nn, e_z0, e_z1, nI_add, pk_mul, e_sub, Nf_app, e_refl, e_reflN, reduceIte, ite_true_, ite_false_, oI_sI, oI_sL, oI_sW, oI_sA, oI_sJ, oI_sX, oL_sI, oL_sL, oL_sW, oL_sA, oL_sJ, oL_sX, oW_sI, oW_sL, oW_sW, oW_sA, oW_sJ, oW_sX, oA_sI, oA_sL, oA_sW, oA_sA, oA_sJ, oA_sX, oJ_sI, oJ_sL, oJ_sW, oJ_sA, oJ_sJ, oJ_sX, oX_sI, oX_sL, oX_sW, oX_sA, oX_sJ, oX_sX, Nat.reduceEqDiff, n10, n01, c4]
theorem st_thing (H : RE N V0 V1 V2 V3 V4 V5 V9 V10 V12 K IM IQ IS IN M O) (a b : Int32) : ∃ o M', pX10_thing V0 V2 V3 a b = some o ∧ pX11_thing M a b = some (o, M') ∧ RE (N + 360) V0 V1 V2 V3 V4 V5 V9 V10 V12 K IM IQ IS IN M' O := by
  obtain ⟨g, nn, H⟩ := H
  have H0 := H
  obtain ⟨⟨c1, c2, c3, c4, c5, c6, c7, c8⟩, hT, hP, hE, hA, hF, hB, hG, hC, hI, hO⟩ := H
  have g0 := w_g0 c1
  have g1 := w_g1 c1
  have g3 := w_g3 c1
  have c4' : oA (sI M 0 (0 : Int32)) 6 = Nf g := c4
  unfold pX10_thing pX11_thing
  rcases p_isT (V0 := V0) c1 c5 c4' a with ⟨x1, x2⟩ | ⟨q, hq, rfl, x1, x2⟩
  · exact ⟨(-1 : Int32), sI M 0 (0 : Int32), by rw [x1, e_bd, if_pos l_0.symm], by rw [x2, e_bd, if_pos l_0.symm], H0.s0 _⟩
  · have w : pX11_thing_l20 (sI M 0 (0 : Int32)) (nI q) b fu (0 : Int32) (0 : Int32) = some (nI (bs (wh g q) (g 1))) := r_who_l c1 c2 c4' (by omega) b fu 0 (by omega) (by rw [fu_eq]; omega)
    have s2 := q_2 c5 q hq
    have s3 := q_3 c5 q hq
    have s4 := s_3 c6 q (by omega)
    rw [x1, x2, e_bd, e_bd, if_neg n1_ne, if_neg n1_ne, w, e_bd]
    by_cases b0 : b = (0 : Int32)
    · refine ⟨nI (g (5 + q)), sI M 0 (0 : Int32), ?_, ?_, H0.s0 _⟩
      · rw [if_pos b0]; simp (disch := omega) only [l_0, l_1, l_2, l_3, l_4, l_5, l_6, l_7, l_8, l_9, l_10, l_11, l_12, l_13, l_14, l_15, l_16, l_17, l_18, l_19, l_20, l_21, l_22, l_23, l_24, l_25, l_26, l_27, l_28, l_29, l_30, l_31, l_32, l_33, l_34, l_35, l_36, l_40, l_41, l_48, l_56, l_57, l_59, l_60, l_61, l_62, l_63, l_79, l_81, l_88, l_93, l_97, l_99, l_105, l_117, l_121, l_122, l_125, l_127, l_131, l_179, l_185, l_193, l_197, l_200, l_201, l_210, l_255, l_390, l_400, l_616, l_900, l_940, l_999, l_1000, l_1024, e_ltT, e_ltF, e_leT, e_leF, e_eqT, e_eqF, e_cl, e_in, e_gd, e_bd, e_ne, e_en, e_nlt, e_ltn, e_len, e_nle, e_nn, e_z0, e_z1, nI_add, pk_mul, e_sub, Nf_app, e_refl, e_reflN, reduceIte, ite_true_, ite_false_, s2]
      · rw [if_pos b0]; simp (disch := omega) only [l_0, l_1, l_2, l_3, l_4, l_5, l_6, l_7, l_8, l_9, l_10, l_11, l_12, l_13, l_14, l_15, l_16, l_17, l_18, l_19, l_20, l_21, l_22, l_23, l_24, l_25, l_26, l_27, l_28, l_29, l_30, l_31, l_32, l_33, l_34, l_35, l_36, l_40, l_41, l_48, l_56, l_57, l_59, l_60, l_61, l_62, l_63, l_79, l_81, l_88, l_93, l_97, l_99, l_105, l_117, l_121, l_122, l_125, l_127, l_131, l_179, l_185, l_193, l_197, l_200, l_201, l_210, l_255, l_390, l_400, l_616, l_900, l_940, l_999, l_1000, l_1024, e_ltT, e_ltF, e_leT, e_leF, e_eqT, e_eqF, e_cl, e_in, e_gd, e_bd, e_ne, e_en, e_nlt, e_ltn, e_len, e_nle, e_nn, e_z0, e_z1, nI_add, pk_mul, e_sub, Nf_app, e_refl, e_reflN, reduceIte, ite_true_, ite_false_, oI_sI, oI_sL, oI_sW, oI_sA, oI_sJ, oI_sX, oL_sI, oL_sL, oL_sW, oL_sA, oL_sJ, oL_sX, oW_sI, oW_sL, oW_sW, oW_sA, oW_sJ, oW_sX, oA_sI, oA_sL, oA_sW, oA_sA, oA_sJ, oA_sX, oJ_sI, oJ_sL, oJ_sW, oJ_sA, oJ_sJ, oJ_sX, oX_sI, oX_sL, oX_sW, oX_sA, oX_sJ, oX_sX, Nat.reduceEqDiff, n10, n01, c4]
    · by_cases b1 : b = (1 : Int32)
      · refine ⟨nI (g (13 + q)), sI M 0 (0 : Int32), ?_, ?_, H0.s0 _⟩
        · rw [if_neg b0, if_pos b1]; simp (disch := omega) only [l_0, l_1, l_2, l_3, l_4, l_5, l_6, l_7, l_8, l_9, l_10, l_11, l_12, l_13, l_14, l_15, l_16, l_17, l_18, l_19, l_20, l_21, l_22, l_23, l_24, l_25, l_26, l_27, l_28, l_29, l_30, l_31, l_32, l_33, l_34, l_35, l_36, l_40, l_41, l_48, l_56, l_57, l_59, l_60, l_61, l_62, l_63, l_79, l_81, l_88, l_93, l_97, l_99, l_105, l_117, l_121, l_122, l_125, l_127, l_131, l_179, l_185, l_193, l_197, l_200, l_201, l_210, l_255, l_390, l_400, l_616, l_900, l_940, l_999, l_1000, l_1024, e_ltT, e_ltF, e_leT, e_leF, e_eqT, e_eqF, e_cl, e_in, e_gd, e_bd, e_ne, e_en, e_nlt, e_ltn, e_len, e_nle, e_nn, e_z0, e_z1, nI_add, pk_mul, e_sub, Nf_app, e_refl, e_reflN, reduceIte, ite_true_, ite_false_, s3]
        · rw [if_neg b0, if_pos b1]; simp (disch := omega) only [l_0, l_1, l_2, l_3, l_4, l_5, l_6, l_7, l_8, l_9, l_10, l_11, l_12, l_13, l_14, l_15, l_16, l_17, l_18, l_19, l_20, l_21, l_22, l_23, l_24, l_25, l_26, l_27, l_28, l_29, l_30, l_31, l_32, l_33, l_34, l_35, l_36, l_40, l_41, l_48, l_56, l_57, l_59, l_60, l_61, l_62, l_63, l_79, l_81, l_88, l_93, l_97, l_99, l_105, l_117, l_121, l_122, l_125, l_127, l_131, l_179, l_185, l_193, l_197, l_200, l_201, l_210, l_255, l_390, l_400, l_616, l_900, l_940, l_999, l_1000, l_1024, e_ltT, e_ltF, e_leT, e_leF, e_eqT, e_eqF, e_cl, e_in, e_gd, e_bd, e_ne, e_en, e_nlt, e_ltn, e_len, e_nle, e_nn, e_z0, e_z1, nI_add, pk_mul, e_sub, Nf_app, e_refl, e_reflN, reduceIte, ite_true_, ite_false_, oI_sI, oI_sL, oI_sW, oI_sA, oI_sJ, oI_sX, oL_sI, oL_sL, oL_sW, oL_sA, oL_sJ, oL_sX, oW_sI, oW_sL, oW_sW, oW_sA, oW_sJ, oW_sX, oA_sI, oA_sL, oA_sW, oA_sA, oA_sJ, oA_sX, oJ_sI, oJ_sL, oJ_sW, oJ_sA, oJ_sJ, oJ_sX, oX_sI, oX_sL, oX_sW, oX_sA, oX_sJ, oX_sX, Nat.reduceEqDiff, n10, n01, c4]
      · by_cases b2 : b = (2 : Int32)
        · refine ⟨nI (g (185 + q)), sI M 0 (0 : Int32), ?_, ?_, H0.s0 _⟩
          · rw [if_neg b0, if_neg b1, if_pos b2]; simp (disch := omega) only [l_0, l_1, l_2, l_3, l_4, l_5, l_6, l_7, l_8, l_9, l_10, l_11, l_12, l_13, l_14, l_15, l_16, l_17, l_18, l_19, l_20, l_21, l_22, l_23, l_24, l_25, l_26, l_27, l_28, l_29, l_30, l_31, l_32, l_33, l_34, l_35, l_36, l_40, l_41, l_48, l_56, l_57, l_59, l_60, l_61, l_62, l_63, l_79, l_81, l_88, l_93, l_97, l_99, l_105, l_117, l_121, l_122, l_125, l_127, l_131, l_179, l_185, l_193, l_197, l_200, l_201, l_210, l_255, l_390, l_400, l_616, l_900, l_940, l_999, l_1000, l_1024, e_ltT, e_ltF, e_leT, e_leF, e_eqT, e_eqF, e_cl, e_in, e_gd, e_bd, e_ne, e_en, e_nlt, e_ltn, e_len, e_nle, e_nn, e_z0, e_z1, nI_add, pk_mul, e_sub, Nf_app, e_refl, e_reflN, reduceIte, ite_true_, ite_false_, s4]
          · rw [if_neg b0, if_neg b1, if_pos b2]; simp (disch := omega) only [l_0, l_1, l_2, l_3, l_4, l_5, l_6, l_7, l_8, l_9, l_10, l_11, l_12, l_13, l_14, l_15, l_16, l_17, l_18, l_19, l_20, l_21, l_22, l_23, l_24, l_25, l_26, l_27, l_28, l_29, l_30, l_31, l_32, l_33, l_34, l_35, l_36, l_40, l_41, l_48, l_56, l_57, l_59, l_60, l_61, l_62, l_63, l_79, l_81, l_88, l_93, l_97, l_99, l_105, l_117, l_121, l_122, l_125, l_127, l_131, l_179, l_185, l_193, l_197, l_200, l_201, l_210, l_255, l_390, l_400, l_616, l_900, l_940, l_999, l_1000, l_1024, e_ltT, e_ltF, e_leT, e_leF, e_eqT, e_eqF, e_cl, e_in, e_gd, e_bd, e_ne, e_en, e_nlt, e_ltn, e_len, e_nle, e_nn, e_z0, e_z1, nI_add, pk_mul, e_sub, Nf_app, e_refl, e_reflN, reduceIte, ite_true_, ite_false_, oI_sI, oI_sL, oI_sW, oI_sA, oI_sJ, oI_sX, oL_sI, oL_sL, oL_sW, oL_sA, oL_sJ, oL_sX, oW_sI, oW_sL, oW_sW, oW_sA, oW_sJ, oW_sX, oA_sI, oA_sL, oA_sW, oA_sA, oA_sJ, oA_sX, oJ_sI, oJ_sL, oJ_sW, oJ_sA, oJ_sJ, oJ_sX, oX_sI, oX_sL, oX_sW, oX_sA, oX_sJ, oX_sX, Nat.reduceEqDiff, n10, n01, c4]
        · by_cases b3 : b = (3 : Int32)
          · refine ⟨nI (bs (wh g q) (g 1)), sI M 0 (0 : Int32), ?_, ?_, H0.s0 _⟩
            · rw [if_neg b0, if_neg b1, if_neg b2, if_pos b3, c_who c1 c2 c5 c6 (by omega), e_bd]
            · rw [if_neg b0, if_neg b1, if_neg b2, if_pos b3]
          · by_cases b4 : b = (4 : Int32)
            · refine ⟨nI (st g q), sI M 0 (0 : Int32), ?_, ?_, H0.s0 _⟩
              · rw [if_neg b0, if_neg b1, if_neg b2, if_neg b3, if_pos b4, c_still c1 c2 c5 c6 (by omega), e_bd]
              · rw [if_neg b0, if_neg b1, if_neg b2, if_neg b3, if_pos b4, r_still c1 c2 c4' (by omega), e_bd]
            · refine ⟨(-1 : Int32), sI M 0 (0 : Int32), ?_, ?_, H0.s0 _⟩
              · rw [if_neg b0, if_neg b1, if_neg b2, if_neg b3, if_neg b4]
              · rw [if_neg b0, if_neg b1, if_neg b2, if_neg b3, if_neg b4]
theorem st_bed (H : RE N V0 V1 V2 V3 V4 V5 V9 V10 V12 K IM IQ IS IN M O) (hN : N < 1000000) (a b : Int32) : ∃ o M', pX10_bed V0 V2 V3 a b = some o ∧ pX11_bed M a b = some (o, M') ∧ RE (N + 360) V0 V1 V2 V3 V4 V5 V9 V10 V12 K IM IQ IS IN M' O := by
  obtain ⟨g, nn, H⟩ := H
  have H0 := H
  obtain ⟨⟨c1, c2, c3, c4, c5, c6, c7, c8⟩, hT, hP, hE, hA, hF, hB, hG, hC, hI, hO⟩ := H
  have g0 := w_g0 c1
  have g1 := w_g1 c1
  have g3 := w_g3 c1
  have c4' : oA (sI M 0 (0 : Int32)) 6 = Nf g := c4
  unfold pX10_bed pX11_bed
  rcases p_isB (V0 := V0) c1 c5 c4' a with ⟨x1, x2⟩ | ⟨q, hq, rfl, x1, x2⟩
  · exact ⟨(-1 : Int32), sI M 0 (0 : Int32), by rw [x1, e_bd, if_pos l_0.symm], by rw [x2, e_bd, if_pos l_0.symm], H0.s0 _⟩
  · have s2 := q_13 c5 q hq
    have s3 := s_5 c6 q (by omega)
    have s4 := s_6 c6 q (by omega)
    rw [x1, x2, e_bd, e_bd, if_neg n1_ne, if_neg n1_ne]
    by_cases b0 : b = (0 : Int32)
    · refine ⟨nI (g (117 + q)), sI M 0 (0 : Int32), ?_, ?_, H0.s0 _⟩
      · rw [if_pos b0]; simp (disch := omega) only [l_0, l_1, l_2, l_3, l_4, l_5, l_6, l_7, l_8, l_9, l_10, l_11, l_12, l_13, l_14, l_15, l_16, l_17, l_18, l_19, l_20, l_21, l_22, l_23, l_24, l_25, l_26, l_27, l_28, l_29, l_30, l_31, l_32, l_33, l_34, l_35, l_36, l_40, l_41, l_48, l_56, l_57, l_59, l_60, l_61, l_62, l_63, l_79, l_81, l_88, l_93, l_97, l_99, l_105, l_117, l_121, l_122, l_125, l_127, l_131, l_179, l_185, l_193, l_197, l_200, l_201, l_210, l_255, l_390, l_400, l_616, l_900, l_940, l_999, l_1000, l_1024, e_ltT, e_ltF, e_leT, e_leF, e_eqT, e_eqF, e_cl, e_in, e_gd, e_bd, e_ne, e_en, e_nlt, e_ltn, e_len, e_nle, e_nn, e_z0, e_z1, nI_add, pk_mul, e_sub, Nf_app, e_refl, e_reflN, reduceIte, ite_true_, ite_false_, s2]
      · rw [if_pos b0]; simp (disch := omega) only [l_0, l_1, l_2, l_3, l_4, l_5, l_6, l_7, l_8, l_9, l_10, l_11, l_12, l_13, l_14, l_15, l_16, l_17, l_18, l_19, l_20, l_21, l_22, l_23, l_24, l_25, l_26, l_27, l_28, l_29, l_30, l_31, l_32, l_33, l_34, l_35, l_36, l_40, l_41, l_48, l_56, l_57, l_59, l_60, l_61, l_62, l_63, l_79, l_81, l_88, l_93, l_97, l_99, l_105, l_117, l_121, l_122, l_125, l_127, l_131, l_179, l_185, l_193, l_197, l_200, l_201, l_210, l_255, l_390, l_400, l_616, l_900, l_940, l_999, l_1000, l_1024, e_ltT, e_ltF, e_leT, e_leF, e_eqT, e_eqF, e_cl, e_in, e_gd, e_bd, e_ne, e_en, e_nlt, e_ltn, e_len, e_nle, e_nn, e_z0, e_z1, nI_add, pk_mul, e_sub, Nf_app, e_refl, e_reflN, reduceIte, ite_true_, ite_false_, oI_sI, oI_sL, oI_sW, oI_sA, oI_sJ, oI_sX, oL_sI, oL_sL, oL_sW, oL_sA, oL_sJ, oL_sX, oW_sI, oW_sL, oW_sW, oW_sA, oW_sJ, oW_sX, oA_sI, oA_sL, oA_sW, oA_sA, oA_sJ, oA_sX, oJ_sI, oJ_sL, oJ_sW, oJ_sA, oJ_sJ, oJ_sX, oX_sI, oX_sL, oX_sW, oX_sA, oX_sJ, oX_sX, Nat.reduceEqDiff, n10, n01, c4]
    · by_cases b1 : b = (1 : Int32)
      · refine ⟨nI (g (193 + q)), sI M 0 (0 : Int32), ?_, ?_, H0.s0 _⟩
        · rw [if_neg b0, if_pos b1]; simp (disch := omega) only [l_0, l_1, l_2, l_3, l_4, l_5, l_6, l_7, l_8, l_9, l_10, l_11, l_12, l_13, l_14, l_15, l_16, l_17, l_18, l_19, l_20, l_21, l_22, l_23, l_24, l_25, l_26, l_27, l_28, l_29, l_30, l_31, l_32, l_33, l_34, l_35, l_36, l_40, l_41, l_48, l_56, l_57, l_59, l_60, l_61, l_62, l_63, l_79, l_81, l_88, l_93, l_97, l_99, l_105, l_117, l_121, l_122, l_125, l_127, l_131, l_179, l_185, l_193, l_197, l_200, l_201, l_210, l_255, l_390, l_400, l_616, l_900, l_940, l_999, l_1000, l_1024, e_ltT, e_ltF, e_leT, e_leF, e_eqT, e_eqF, e_cl, e_in, e_gd, e_bd, e_ne, e_en, e_nlt, e_ltn, e_len, e_nle, e_nn, e_z0, e_z1, nI_add, pk_mul, e_sub, Nf_app, e_refl, e_reflN, reduceIte, ite_true_, ite_false_, s3]
        · rw [if_neg b0, if_pos b1]; simp (disch := omega) only [l_0, l_1, l_2, l_3, l_4, l_5, l_6, l_7, l_8, l_9, l_10, l_11, l_12, l_13, l_14, l_15, l_16, l_17, l_18, l_19, l_20, l_21, l_22, l_23, l_24, l_25, l_26, l_27, l_28, l_29, l_30, l_31, l_32, l_33, l_34, l_35, l_36, l_40, l_41, l_48, l_56, l_57, l_59, l_60, l_61, l_62, l_63, l_79, l_81, l_88, l_93, l_97, l_99, l_105, l_117, l_121, l_122, l_125, l_127, l_131, l_179, l_185, l_193, l_197, l_200, l_201, l_210, l_255, l_390, l_400, l_616, l_900, l_940, l_999, l_1000, l_1024, e_ltT, e_ltF, e_leT, e_leF, e_eqT, e_eqF, e_cl, e_in, e_gd, e_bd, e_ne, e_en, e_nlt, e_ltn, e_len, e_nle, e_nn, e_z0, e_z1, nI_add, pk_mul, e_sub, Nf_app, e_refl, e_reflN, reduceIte, ite_true_, ite_false_, oI_sI, oI_sL, oI_sW, oI_sA, oI_sJ, oI_sX, oL_sI, oL_sL, oL_sW, oL_sA, oL_sJ, oL_sX, oW_sI, oW_sL, oW_sW, oW_sA, oW_sJ, oW_sX, oA_sI, oA_sL, oA_sW, oA_sA, oA_sJ, oA_sX, oJ_sI, oJ_sL, oJ_sW, oJ_sA, oJ_sJ, oJ_sX, oX_sI, oX_sL, oX_sW, oX_sA, oX_sJ, oX_sX, Nat.reduceEqDiff, n10, n01, c4]
      · by_cases b2 : b = (2 : Int32)
        · refine ⟨nI (b01 (sl g q)), sI M 0 (0 : Int32), ?_, ?_, H0.s0 _⟩
          · rw [if_neg b0, if_neg b1, if_pos b2, c_slept c1 c2 hN c5 c6 hq, e_bd]
            cases sl g q
            · rw [b01_f, if_pos l_0.symm]; rfl
            · rw [b01_t, if_neg n1_ne]; rfl
          · rw [if_neg b0, if_neg b1, if_pos b2, r_slept c1 c2 hN c4' hq, e_bd]
            cases sl g q
            · rw [b01_f, if_pos l_0.symm]; rfl
            · rw [b01_t, if_neg n1_ne]; rfl
        · by_cases b3 : b = (3 : Int32)
          · refine ⟨nI (g (197 + q)), sI M 0 (0 : Int32), ?_, ?_, H0.s0 _⟩
            · rw [if_neg b0, if_neg b1, if_neg b2, if_pos b3]; simp (disch := omega) only [l_0, l_1, l_2, l_3, l_4, l_5, l_6, l_7, l_8, l_9, l_10, l_11, l_12, l_13, l_14, l_15, l_16, l_17, l_18, l_19, l_20, l_21, l_22, l_23, l_24, l_25, l_26, l_27, l_28, l_29, l_30, l_31, l_32, l_33, l_34, l_35, l_36, l_40, l_41, l_48, l_56, l_57, l_59, l_60, l_61, l_62, l_63, l_79, l_81, l_88, l_93, l_97, l_99, l_105, l_117, l_121, l_122, l_125, l_127, l_131, l_179, l_185, l_193, l_197, l_200, l_201, l_210, l_255, l_390, l_400, l_616, l_900, l_940, l_999, l_1000, l_1024, e_ltT, e_ltF, e_leT, e_leF, e_eqT, e_eqF, e_cl, e_in, e_gd, e_bd, e_ne, e_en, e_nlt, e_ltn, e_len, e_nle, e_nn, e_z0, e_z1, nI_add, pk_mul, e_sub, Nf_app, e_refl, e_reflN, reduceIte, ite_true_, ite_false_, s4]
            · rw [if_neg b0, if_neg b1, if_neg b2, if_pos b3]; simp (disch := omega) only [l_0, l_1, l_2, l_3, l_4, l_5, l_6, l_7, l_8, l_9, l_10, l_11, l_12, l_13, l_14, l_15, l_16, l_17, l_18, l_19, l_20, l_21, l_22, l_23, l_24, l_25, l_26, l_27, l_28, l_29, l_30, l_31, l_32, l_33, l_34, l_35, l_36, l_40, l_41, l_48, l_56, l_57, l_59, l_60, l_61, l_62, l_63, l_79, l_81, l_88, l_93, l_97, l_99, l_105, l_117, l_121, l_122, l_125, l_127, l_131, l_179, l_185, l_193, l_197, l_200, l_201, l_210, l_255, l_390, l_400, l_616, l_900, l_940, l_999, l_1000, l_1024, e_ltT, e_ltF, e_leT, e_leF, e_eqT, e_eqF, e_cl, e_in, e_gd, e_bd, e_ne, e_en, e_nlt, e_ltn, e_len, e_nle, e_nn, e_z0, e_z1, nI_add, pk_mul, e_sub, Nf_app, e_refl, e_reflN, reduceIte, ite_true_, ite_false_, oI_sI, oI_sL, oI_sW, oI_sA, oI_sJ, oI_sX, oL_sI, oL_sL, oL_sW, oL_sA, oL_sJ, oL_sX, oW_sI, oW_sL, oW_sW, oW_sA, oW_sJ, oW_sX, oA_sI, oA_sL, oA_sW, oA_sA, oA_sJ, oA_sX, oJ_sI, oJ_sL, oJ_sW, oJ_sA, oJ_sJ, oJ_sX, oX_sI, oX_sL, oX_sW, oX_sA, oX_sJ, oX_sX, Nat.reduceEqDiff, n10, n01, c4]
          · refine ⟨(-1 : Int32), sI M 0 (0 : Int32), ?_, ?_, H0.s0 _⟩
            · rw [if_neg b0, if_neg b1, if_neg b2, if_neg b3]
            · rw [if_neg b0, if_neg b1, if_neg b2, if_neg b3]
theorem st_now (H : RE N V0 V1 V2 V3 V4 V5 V9 V10 V12 K IM IQ IS IN M O) (hN : N < 1000000) (a : Int32) : ∃ o M', pX10_now V0 V3 V2 a = some o ∧ pX11_now M a = some (o, M') ∧ RE (N + 360) V0 V1 V2 V3 V4 V5 V9 V10 V12 K IM IQ IS IN M' O := by
  obtain ⟨g, nn, H⟩ := H
  have H0 := H
  obtain ⟨⟨c1, c2, c3, c4, c5, c6, c7, c8⟩, hT, hP, hE, hA, hF, hB, hG, hC, hI, hO⟩ := H
  have g0 := w_g0 c1
  have g1 := w_g1 c1
  have g3 := w_g3 c1
  have c4' : oA (sI M 0 (0 : Int32)) 6 = Nf g := c4
  unfold pX10_now pX11_now
  have w : pX11_now_l9 (sI M 0 (0 : Int32)) a fu (0 : Int32) (0 : Int32) = some (nI (bs (ns g) (g 1))) := r_nests_l c1 c2 c4' a fu 0 (by omega) (by rw [fu_eq]; omega)
  rw [w, e_bd]
  by_cases b0 : a = (0 : Int32)
  · refine ⟨nI (g 121), sI M 0 (0 : Int32), ?_, ?_, H0.s0 _⟩
    · rw [if_pos b0, s_8 c6]
    · rw [if_pos b0, c4']; rfl
  · by_cases b1 : a = (1 : Int32)
    · refine ⟨nI (sm (fun t => g (185 + t)) 8), sI M 0 (0 : Int32), ?_, ?_, H0.s0 _⟩
      · rw [if_neg b0, if_pos b1, s_7 c6]
      · rw [if_neg b0, if_pos b1, r_bag c4', e_bd]
    · by_cases b2 : a = (2 : Int32)
      · refine ⟨nI (bs (sl g) (g 3)), sI M 0 (0 : Int32), ?_, ?_, H0.s0 _⟩
        · rw [if_neg b0, if_neg b1, if_pos b2, c_sleptOn c1 c2 hN c5 c6, e_bd]
        · rw [if_neg b0, if_neg b1, if_pos b2, r_sleptOn c1 c2 hN c4', e_bd]
      · by_cases b3 : a = (3 : Int32)
        · refine ⟨nI (bs (ns g) (g 1)), sI M 0 (0 : Int32), ?_, ?_, H0.s0 _⟩
          · rw [if_neg b0, if_neg b1, if_neg b2, if_pos b3, c_nests c1 c2 c5 c6, e_bd]
          · rw [if_neg b0, if_neg b1, if_neg b2, if_pos b3]
        · by_cases b4 : a = (4 : Int32)
          · refine ⟨nI (g 122), sI M 0 (0 : Int32), ?_, ?_, H0.s0 _⟩
            · rw [if_neg b0, if_neg b1, if_neg b2, if_neg b3, if_pos b4, s_9 c6]
            · rw [if_neg b0, if_neg b1, if_neg b2, if_neg b3, if_pos b4, c4']; rfl
          · by_cases b5 : a = (5 : Int32)
            · refine ⟨nI (g 123), sI M 0 (0 : Int32), ?_, ?_, H0.s0 _⟩
              · rw [if_neg b0, if_neg b1, if_neg b2, if_neg b3, if_neg b4, if_pos b5, s_10 c6]
              · rw [if_neg b0, if_neg b1, if_neg b2, if_neg b3, if_neg b4, if_pos b5, c4']; rfl
            · by_cases b6 : a = (6 : Int32)
              · refine ⟨nI (g 124), sI M 0 (0 : Int32), ?_, ?_, H0.s0 _⟩
                · rw [if_neg b0, if_neg b1, if_neg b2, if_neg b3, if_neg b4, if_neg b5, if_pos b6, s_11 c6]
                · rw [if_neg b0, if_neg b1, if_neg b2, if_neg b3, if_neg b4, if_neg b5, if_pos b6, c4']; rfl
              · refine ⟨(-1 : Int32), sI M 0 (0 : Int32), ?_, ?_, H0.s0 _⟩
                · rw [if_neg b0, if_neg b1, if_neg b2, if_neg b3, if_neg b4, if_neg b5, if_neg b6]
                · rw [if_neg b0, if_neg b1, if_neg b2, if_neg b3, if_neg b4, if_neg b5, if_neg b6]
theorem st_count (H : RE N V0 V1 V2 V3 V4 V5 V9 V10 V12 K IM IQ IS IN M O) (a : Int32) : ∃ o M', pX10_count V0 V1 V2 a = some o ∧ pX11_count M a = some (o, M') ∧ RE (N + 360) V0 V1 V2 V3 V4 V5 V9 V10 V12 K IM IQ IS IN M' O := by
  obtain ⟨g, nn, H⟩ := H
  have H0 := H
  obtain ⟨⟨c1, c2, c3, c4, c5, c6, c7, c8⟩, hT, hP, hE, hA, hF, hB, hG, hC, hI, hO⟩ := H
  have g0 := w_g0 c1
  have g1 := w_g1 c1
  have g3 := w_g3 c1
  have c4' : oA (sI M 0 (0 : Int32)) 6 = Nf g := c4
  obtain ⟨tb, z, t1, t2, t3, t4⟩ := hT
  unfold pX10_count pX11_count
  by_cases b5 : a = (5 : Int32)
  · subst b5
    refine ⟨nI z, sI M 0 (0 : Int32), ?_, ?_, H0.s0 _⟩
    · rw [if_neg (by decide), if_neg (by decide), if_neg (by decide), if_neg (by decide), if_neg (by decide), if_pos rfl, t3]
    · rw [if_pos rfl, oI_sI, if_neg (by omega), t4]
  · have o5 : ∀ i, i < 5 → ∃ o, (if nI i = (0 : Int32) then some (oI V2 0) else if nI i = (1 : Int32) then some (oI V2 4) else if nI i = (2 : Int32) then some (oI V2 7) else if nI i = (3 : Int32) then some (oI V2 11) else if nI i = (4 : Int32) then some (oI V2 14) else if nI i = (5 : Int32) then some (oI V1 1) else some (-1 : Int32)) = some o ∧ o = nI (g i) := fun i hi => by
      rcases (by omega : i = 0 ∨ i = 1 ∨ i = 2 ∨ i = 3 ∨ i = 4) with rfl | rfl | rfl | rfl | rfl
      · exact ⟨_, by rw [if_pos l_0.symm], q_0 c5⟩
      · exact ⟨_, by rw [if_neg (by decide), if_pos l_1.symm], q_4 c5⟩
      · exact ⟨_, by rw [if_neg (by decide), if_neg (by decide), if_pos l_2.symm], q_7 c5⟩
      · exact ⟨_, by rw [if_neg (by decide), if_neg (by decide), if_neg (by decide), if_pos l_3.symm], q_11 c5⟩
      · exact ⟨_, by rw [if_neg (by decide), if_neg (by decide), if_neg (by decide), if_neg (by decide), if_pos l_4.symm], q_14 c5⟩
    have out : ¬ a = (0 : Int32) → ¬ a = (1 : Int32) → ¬ a = (2 : Int32) → ¬ a = (3 : Int32) → ¬ a = (4 : Int32) → (if a = (0 : Int32) then some (oI V2 0) else if a = (1 : Int32) then some (oI V2 4) else if a = (2 : Int32) then some (oI V2 7) else if a = (3 : Int32) then some (oI V2 11) else if a = (4 : Int32) then some (oI V2 14) else if a = (5 : Int32) then some (oI V1 1) else some (-1 : Int32)) = some (-1 : Int32) := fun h0 h1 h2 h3 h4 => by rw [if_neg h0, if_neg h1, if_neg h2, if_neg h3, if_neg h4, if_neg b5]
    rcases in_c a 0 4 (by omega) (by omega) with ⟨x1, x2⟩ | ⟨x1, x2, x3⟩ | ⟨n, n1, n2, rfl, x1, x2, x3⟩
    · have x2' : pX11_isIn a (0 : Int32) (4 : Int32) = some (nI 0) := x2
      have no : ∀ k, k < 5 → ¬ a = nI k := fun k hk e => by rw [e] at x1; exact absurd x1 (nI_nlt (Nat.zero_le _) (by omega))
      refine ⟨(-1 : Int32), sI M 0 (0 : Int32), out (no 0 (by omega)) (no 1 (by omega)) (no 2 (by omega)) (no 3 (by omega)) (no 4 (by omega)), ?_, H0.s0 _⟩
      rw [if_neg b5, x2', e_bd, if_pos l_0.symm]
    · have x3' : pX11_isIn a (0 : Int32) (4 : Int32) = some (nI 0) := x3
      have no : ∀ k, k < 5 → ¬ a = nI k := fun k hk e => by rw [e] at x2; exact absurd (nI_le (show k ≤ 4 by omega) (by omega)) x2
      refine ⟨(-1 : Int32), sI M 0 (0 : Int32), out (no 0 (by omega)) (no 1 (by omega)) (no 2 (by omega)) (no 3 (by omega)) (no 4 (by omega)), ?_, H0.s0 _⟩
      rw [if_neg b5, x3', e_bd, if_pos l_0.symm]
    · have x3' : pX11_isIn (nI n) (0 : Int32) (4 : Int32) = some (nI 1) := x3
      obtain ⟨o, y1, y2⟩ := o5 n (by omega)
      refine ⟨o, sI M 0 (0 : Int32), y1, ?_, H0.s0 _⟩
      rw [if_neg b5, x3', e_bd, if_neg n1_ne, y2]
      simp (disch := omega) only [l_0, l_1, l_2, l_3, l_4, l_5, l_6, l_7, l_8, l_9, l_10, l_11, l_12, l_13, l_14, l_15, l_16, l_17, l_18, l_19, l_20, l_21, l_22, l_23, l_24, l_25, l_26, l_27, l_28, l_29, l_30, l_31, l_32, l_33, l_34, l_35, l_36, l_40, l_41, l_48, l_56, l_57, l_59, l_60, l_61, l_62, l_63, l_79, l_81, l_88, l_93, l_97, l_99, l_105, l_117, l_121, l_122, l_125, l_127, l_131, l_179, l_185, l_193, l_197, l_200, l_201, l_210, l_255, l_390, l_400, l_616, l_900, l_940, l_999, l_1000, l_1024, e_ltT, e_ltF, e_leT, e_leF, e_eqT, e_eqF, e_cl, e_in, e_gd, e_bd, e_ne, e_en, e_nlt, e_ltn, e_len, e_nle, e_nn, e_z0, e_z1, nI_add, pk_mul, e_sub, Nf_app, e_refl, e_reflN, reduceIte, ite_true_, ite_false_, oI_sI, oI_sL, oI_sW, oI_sA, oI_sJ, oI_sX, oL_sI, oL_sL, oL_sW, oL_sA, oL_sJ, oL_sX, oW_sI, oW_sL, oW_sW, oW_sA, oW_sJ, oW_sX, oA_sI, oA_sL, oA_sW, oA_sA, oA_sJ, oA_sX, oJ_sI, oJ_sL, oJ_sW, oJ_sA, oJ_sJ, oJ_sX, oX_sI, oX_sL, oX_sW, oX_sA, oX_sJ, oX_sX, Nat.reduceEqDiff, n10, n01, c4]
theorem st_fl {a b c : Nat} (H : Fl1 V0 M a b c) (hb : b ≠ 0) (hc : c ≠ 0) : (if oI (sI M 0 (0 : Int32)) b = 0 then some ((-1 : Int32), sI M 0 (0 : Int32)) else some (oI (sI M 0 (0 : Int32)) c, sI M 0 (0 : Int32))) = some (oI V0 a, sI M 0 (0 : Int32)) := by
  rw [oI_sI, if_neg hb, oI_sI, if_neg hc]
  rcases H with ⟨x, y⟩ | ⟨x, y⟩
  · rw [x, if_pos l_0.symm, y]; rfl
  · rw [x, if_neg n1_ne, y]
theorem st_rounded (H : RE N V0 V1 V2 V3 V4 V5 V9 V10 V12 K IM IQ IS IN M O) : ∃ o M', pX10_rounded V0 = some o ∧ pX11_rounded M = some (o, M') ∧ RE (N + 360) V0 V1 V2 V3 V4 V5 V9 V10 V12 K IM IQ IS IN M' O := by
  obtain ⟨g, nn, H⟩ := H
  have H0 := H
  obtain ⟨⟨c1, c2, c3, c4, c5, c6, c7, c8⟩, hT, hP, hE, hA, hF, hB, hG, hC, hI, hO⟩ := H
  have g0 := w_g0 c1
  have g1 := w_g1 c1
  have g3 := w_g3 c1
  have c4' : oA (sI M 0 (0 : Int32)) 6 = Nf g := c4
  exact ⟨oI V0 13, sI M 0 (0 : Int32), rfl, st_fl hF.2.1 (by omega) (by omega), H0.s0 _⟩
theorem st_bedded (H : RE N V0 V1 V2 V3 V4 V5 V9 V10 V12 K IM IQ IS IN M O) : ∃ o M', pX10_bedded V0 = some o ∧ pX11_bedded M = some (o, M') ∧ RE (N + 360) V0 V1 V2 V3 V4 V5 V9 V10 V12 K IM IQ IS IN M' O := by
  obtain ⟨g, nn, H⟩ := H
  have H0 := H
  obtain ⟨⟨c1, c2, c3, c4, c5, c6, c7, c8⟩, hT, hP, hE, hA, hF, hB, hG, hC, hI, hO⟩ := H
  have g0 := w_g0 c1
  have g1 := w_g1 c1
  have g3 := w_g3 c1
  have c4' : oA (sI M 0 (0 : Int32)) 6 = Nf g := c4
  exact ⟨oI V0 14, sI M 0 (0 : Int32), rfl, st_fl hF.2.2.1 (by omega) (by omega), H0.s0 _⟩
theorem st_ask (H : RE N V0 V1 V2 V3 V4 V5 V9 V10 V12 K IM IQ IS IN M O) : ∃ o M', pX10_ask V0 = some o ∧ pX11_ask M = some (o, M') ∧ RE (N + 360) V0 V1 V2 V3 V4 V5 V9 V10 V12 K IM IQ IS IN M' O := by
  obtain ⟨g, nn, H⟩ := H
  have H0 := H
  obtain ⟨⟨c1, c2, c3, c4, c5, c6, c7, c8⟩, hT, hP, hE, hA, hF, hB, hG, hC, hI, hO⟩ := H
  have g0 := w_g0 c1
  have g1 := w_g1 c1
  have g3 := w_g3 c1
  have c4' : oA (sI M 0 (0 : Int32)) 6 = Nf g := c4
  exact ⟨oI V0 15, sI M 0 (0 : Int32), rfl, st_fl hF.2.2.2 (by omega) (by omega), H0.s0 _⟩
theorem st_byteAt (H : RE N V0 V1 V2 V3 V4 V5 V9 V10 V12 K IM IQ IS IN M O) (a : Int32) : ∃ o M', pX10_byteAt V0 V10 a = some o ∧ pX11_byteAt M a = some (o, M') ∧ RE (N + 360) V0 V1 V2 V3 V4 V5 V9 V10 V12 K IM IQ IS IN M' O := by
  obtain ⟨g, nn, H⟩ := H
  have H0 := H
  obtain ⟨⟨c1, c2, c3, c4, c5, c6, c7, c8⟩, hT, hP, hE, hA, hF, hB, hG, hC, hI, hO⟩ := H
  have g0 := w_g0 c1
  have g1 := w_g1 c1
  have g3 := w_g3 c1
  have c4' : oA (sI M 0 (0 : Int32)) 6 = Nf g := c4
  obtain ⟨s, t1, ⟨t2, t3⟩, t4, t5⟩ := hG
  unfold pX10_byteAt pX11_byteAt
  have e34 : oI (sI M 0 (0 : Int32)) 34 = nI s.2 := t4
  rw [e34, t2]
  rcases in_p a s.2 (by omega) with ⟨y1, y2⟩ | ⟨y1, y2, y3⟩ | ⟨j, j1, rfl, y1, y2, y3⟩
  · have y2' : pX11_isIn a (0 : Int32) (nI s.2 - (1 : Int32)) = some (nI 0) := y2
    refine ⟨(-1 : Int32), sI M 0 (0 : Int32), ?_, ?_, H0.s0 _⟩
    · rw [if_pos (show a < 0 from y1)]
    · rw [y2', e_bd, if_pos l_0.symm]
  · have y3' : pX11_isIn a (0 : Int32) (nI s.2 - (1 : Int32)) = some (nI 0) := y3
    refine ⟨(-1 : Int32), sI M 0 (0 : Int32), ?_, ?_, H0.s0 _⟩
    · have z : ¬ a < nI s.2 := by
        rw [Int32.le_iff_toInt_le] at y2
        rw [Int32.lt_iff_toInt_lt]
        omega
      rw [if_neg (show ¬ a < 0 from y1), if_neg z]
    · rw [y3', e_bd, if_pos l_0.symm]
  · have y3' : pX11_isIn (nI j) (0 : Int32) (nI s.2 - (1 : Int32)) = some (nI 1) := y3
    refine ⟨nI (s.1 j), sI M 0 (0 : Int32), ?_, ?_, H0.s0 _⟩
    · rw [if_neg (show ¬ nI j < 0 from y1), if_pos (nI_lt j1 (by omega)), e_in (show j < 79 by omega) (by omega), e_gd, e_cl (by omega), t3 j j1]
    · rw [y3', e_bd, if_neg n1_ne, e_in (show j < 88 by omega) (by omega), e_gd, e_cl (by omega), oA_sI, t5 j j1]
theorem st_told (H : RE N V0 V1 V2 V3 V4 V5 V9 V10 V12 K IM IQ IS IN M O) (a : Int32) : ∃ o M', pX10_told V0 V9 a = some o ∧ pX11_told M a = some (o, M') ∧ RE (N + 360) V0 V1 V2 V3 V4 V5 V9 V10 V12 K IM IQ IS IN M' O := by
  obtain ⟨g, nn, H⟩ := H
  have H0 := H
  obtain ⟨⟨c1, c2, c3, c4, c5, c6, c7, c8⟩, hT, hP, hE, hA, hF, hB, hG, hC, hI, hO⟩ := H
  have g0 := w_g0 c1
  have g1 := w_g1 c1
  have g3 := w_g3 c1
  have c4' : oA (sI M 0 (0 : Int32)) 6 = Nf g := c4
  unfold pX10_told pX11_told
  have e38 : oI (sI M 0 (0 : Int32)) 38 = oI M 38 := rfl
  rw [e38]
  rcases hB with ⟨b1, b2⟩ | ⟨b1, b2, b3, b4, b5, b6⟩
  · refine ⟨(-1 : Int32), sI M 0 (0 : Int32), ?_, ?_, H0.s0 _⟩
    · rw [b2, if_pos l_0.symm]
    · rw [b1, if_pos l_0.symm]
  · rw [b1, b2, if_neg n1_ne, if_neg n1_ne]
    have o4 : ∀ i, i < 4 → (if nI i = (0 : Int32) then some (oI V9 5) else if nI i = (1 : Int32) then some (oI V9 6) else if nI i = (2 : Int32) then some (oI V9 7) else if nI i = (3 : Int32) then some (oI V9 8) else some (-1 : Int32)) = some (oA M 37 i) := fun i hi => by
      rcases (by omega : i = 0 ∨ i = 1 ∨ i = 2 ∨ i = 3) with rfl | rfl | rfl | rfl
      · rw [if_pos l_0.symm, b3]
      · rw [if_neg (by decide), if_pos l_1.symm, b4]
      · rw [if_neg (by decide), if_neg (by decide), if_pos l_2.symm, b5]
      · rw [if_neg (by decide), if_neg (by decide), if_neg (by decide), if_pos l_3.symm, b6]
    have out : ¬ a = (0 : Int32) → ¬ a = (1 : Int32) → ¬ a = (2 : Int32) → ¬ a = (3 : Int32) → (if a = (0 : Int32) then some (oI V9 5) else if a = (1 : Int32) then some (oI V9 6) else if a = (2 : Int32) then some (oI V9 7) else if a = (3 : Int32) then some (oI V9 8) else some (-1 : Int32)) = some (-1 : Int32) := fun h0 h1 h2 h3 => by rw [if_neg h0, if_neg h1, if_neg h2, if_neg h3]
    rcases in_c a 0 3 (by omega) (by omega) with ⟨x1, x2⟩ | ⟨x1, x2, x3⟩ | ⟨n, n1, n2, rfl, x1, x2, x3⟩
    · have x2' : pX11_isIn a (0 : Int32) (3 : Int32) = some (nI 0) := x2
      have no : ∀ k, k < 5 → ¬ a = nI k := fun k hk e => by rw [e] at x1; exact absurd x1 (nI_nlt (Nat.zero_le _) (by omega))
      refine ⟨(-1 : Int32), sI M 0 (0 : Int32), out (no 0 (by omega)) (no 1 (by omega)) (no 2 (by omega)) (no 3 (by omega)), ?_, H0.s0 _⟩
      rw [x2', e_bd, if_pos l_0.symm]
    · have x3' : pX11_isIn a (0 : Int32) (3 : Int32) = some (nI 0) := x3
      have no : ∀ k, k < 4 → ¬ a = nI k := fun k hk e => by rw [e] at x2; exact absurd (nI_le (show k ≤ 3 by omega) (by omega)) x2
      refine ⟨(-1 : Int32), sI M 0 (0 : Int32), out (no 0 (by omega)) (no 1 (by omega)) (no 2 (by omega)) (no 3 (by omega)), ?_, H0.s0 _⟩
      rw [x3', e_bd, if_pos l_0.symm]
    · have x3' : pX11_isIn (nI n) (0 : Int32) (3 : Int32) = some (nI 1) := x3
      refine ⟨oA M 37 n, sI M 0 (0 : Int32), o4 n (by omega), ?_, H0.s0 _⟩
      rw [x3', e_bd, if_neg n1_ne, e_in (show n < 4 by omega) (by omega), e_gd, e_cl (by omega), oA_sI]
theorem st_ease (H : RE N V0 V1 V2 V3 V4 V5 V9 V10 V12 K IM IQ IS IN M O) (a : Int32) : ∃ o M', pX10_ease V0 V2 V8 V3 a = some o ∧ pX11_ease M a = some (o, M') ∧ RE (N + 360) V0 V1 V2 V3 V4 V5 V9 V10 V12 K IM IQ IS IN M' O := by
  obtain ⟨g, nn, H⟩ := H
  have H0 := H
  obtain ⟨⟨c1, c2, c3, c4, c5, c6, c7, c8⟩, hT, hP, hE, hA, hF, hB, hG, hC, hI, hO⟩ := H
  have g0 := w_g0 c1
  have g1 := w_g1 c1
  have g3 := w_g3 c1
  have c4' : oA (sI M 0 (0 : Int32)) 6 = Nf g := c4
  unfold pX10_ease pX11_ease
  rcases p_isP (V0 := V0) c1 c5 c4' a with ⟨x1, x2⟩ | ⟨q, hq, rfl, x1, x2⟩
  · exact ⟨(-1 : Int32), sI M 0 (0 : Int32), by rw [x1, e_bd, if_pos l_0.symm], by rw [x2, e_bd, if_pos l_0.symm], H0.s0 _⟩
  · refine ⟨oN (ez g q), sI M 0 (0 : Int32), ?_, ?_, H0.s0 _⟩
    · rw [x1, e_bd, if_neg n1_ne, c_ease c1 c2 c5 c6 hq, e_bd]
    · rw [x2, e_bd, if_neg n1_ne, r_ease c1 c2 c4' hq, e_bd]
theorem st_nests (H : RE N V0 V1 V2 V3 V4 V5 V9 V10 V12 K IM IQ IS IN M O) (a : Int32) : ∃ o M', pX10_nests V0 V2 V8 V3 a = some o ∧ pX11_nests M a = some (o, M') ∧ RE (N + 360) V0 V1 V2 V3 V4 V5 V9 V10 V12 K IM IQ IS IN M' O := by
  obtain ⟨g, nn, H⟩ := H
  have H0 := H
  obtain ⟨⟨c1, c2, c3, c4, c5, c6, c7, c8⟩, hT, hP, hE, hA, hF, hB, hG, hC, hI, hO⟩ := H
  have g0 := w_g0 c1
  have g1 := w_g1 c1
  have g3 := w_g3 c1
  have c4' : oA (sI M 0 (0 : Int32)) 6 = Nf g := c4
  unfold pX10_nests pX11_nests
  rcases p_isP (V0 := V0) c1 c5 c4' a with ⟨x1, x2⟩ | ⟨q, hq, rfl, x1, x2⟩
  · exact ⟨(-1 : Int32), sI M 0 (0 : Int32), by rw [x1, e_bd, if_pos l_0.symm], by rw [x2, e_bd, if_pos l_0.symm], H0.s0 _⟩
  · obtain ⟨⟨r, M'⟩, y1, y2, X, y3⟩ := r_nests c1 c2 c3 c4' (q := q) (by omega)
    have y2 : r = oN (nst g q 100 0) := y2
    have y3 : M' = sA (sI M 0 (0 : Int32)) 22 X := y3
    subst y2 y3
    refine ⟨oN (nst g q 100 0), sA (sI M 0 (0 : Int32)) 22 X, ?_, ?_, H0.same (by omega) ⟨rfl, rfl, rfl, rfl, rfl, rfl, rfl, rfl, rfl, rfl, rfl, rfl, rfl, rfl, rfl, rfl, rfl, rfl, rfl⟩ rfl rfl rfl hO⟩
    · rw [x1, e_bd, if_neg n1_ne, c_nests2 c1 c2 c3 c5 c6 (by omega), e_bd]
    · rw [x2, e_bd, if_neg n1_ne]
      exact y1
theorem st_like (H : RE N V0 V1 V2 V3 V4 V5 V9 V10 V12 K IM IQ IS IN M O) (a : Int32) : ∃ o M', pX10_like V0 V2 V3 a = some o ∧ pX11_like M a = some (o, M') ∧ RE (N + 360) V0 V1 V2 V3 V4 V5 V9 V10 V12 K IM IQ IS IN M' O := by
  obtain ⟨g, nn, H⟩ := H
  have H0 := H
  obtain ⟨⟨c1, c2, c3, c4, c5, c6, c7, c8⟩, hT, hP, hE, hA, hF, hB, hG, hC, hI, hO⟩ := H
  have g0 := w_g0 c1
  have g1 := w_g1 c1
  have g3 := w_g3 c1
  have c4' : oA (sI M 0 (0 : Int32)) 6 = Nf g := c4
  unfold pX10_like pX11_like
  rcases p_isP (V0 := V0) c1 c5 c4' a with ⟨x1, x2⟩ | ⟨q, hq, rfl, x1, x2⟩
  · exact ⟨(-1 : Int32), sI M 0 (0 : Int32), by rw [x1, e_bd, if_pos l_0.symm], by rw [x2, e_bd, if_pos l_0.symm], H0.s0 _⟩
  · have w1 : pX10_like_l14 V0 V2 V3 (nI q) fu (0 : Int32) (0 : Int32) = some (nI (bs (lp g q) (g 1))) := c_likes c1 c2 c5 c6 (by omega) fu 0 (by omega) (by rw [fu_eq]; omega)
    have w2 : pX11_like_l19 (sI M 0 (0 : Int32)) (nI q) fu (0 : Int32) (0 : Int32) = some (nI (bs (lp g q) (g 1))) := r_likes c1 c2 c4' (by omega) fu 0 (by omega) (by rw [fu_eq]; omega)
    refine ⟨nI (bs (lp g q) (g 1)), sI M 0 (0 : Int32), ?_, ?_, H0.s0 _⟩
    · rw [x1, e_bd, if_neg n1_ne, w1, e_bd]
    · rw [x2, e_bd, if_neg n1_ne, w2, e_bd]
theorem st_hardest (H : RE N V0 V1 V2 V3 V4 V5 V9 V10 V12 K IM IQ IS IN M O) : ∃ o M', pX10_hardest V0 V2 V3 = some o ∧ pX11_hardest M = some (o, M') ∧ RE (N + 360) V0 V1 V2 V3 V4 V5 V9 V10 V12 K IM IQ IS IN M' O := by
  obtain ⟨g, nn, H⟩ := H
  have H0 := H
  obtain ⟨⟨c1, c2, c3, c4, c5, c6, c7, c8⟩, hT, hP, hE, hA, hF, hB, hG, hC, hI, hO⟩ := H
  have g0 := w_g0 c1
  have g1 := w_g1 c1
  have g3 := w_g3 c1
  have c4' : oA (sI M 0 (0 : Int32)) 6 = Nf g := c4
  unfold pX10_hardest pX11_hardest
  have w1 : pX10_hardest_l6 V0 V2 V3 fu (-1 : Int32) (-1 : Int32) (0 : Int32) = some (oN (hd g (g 1))) := c_hard c1 c2 c5 c6 fu 0 (by omega) (by rw [fu_eq]; omega)
  have w2 : pX11_hardest_l9 (sI M 0 (0 : Int32)) fu (-1 : Int32) (0 : Int32) = some (oN (hd g (g 1))) := r_hard c1 c2 c4' fu 0 (by omega) (by rw [fu_eq]; omega)
  refine ⟨oN (hd g (g 1)), sI M 0 (0 : Int32), ?_, ?_, H0.s0 _⟩
  · rw [w1, e_bd]
  · rw [w2, e_bd]
end
