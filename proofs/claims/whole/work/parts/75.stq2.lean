/-! questions that leave something -/
section
variable {N : Nat} {V0 V1 V2 V3 V4 V5 V8 V9 V10 V12 V13 M O : Ob} {K IM IQ IS IN : Nat → Ob}
theorem st_thr (H : RE N V0 V1 V2 V3 V4 V5 V9 V10 V12 K IM IQ IS IN M O) {F : Option (Option Int32)} {R : Option (Int32 × Ob)} (h : (F = some none ∧ R = some (nI 0, sI M 0 (nI 1))) ∨ ∃ v, F = some (some v) ∧ R = some (v, sI M 0 (nI 0))) : ∃ t r O' M', (gd (decide (oI O 1 = 1)) (F.bind fun r => Option.elim r (some (1, O)) (fun v => some (0, sJ O 0 (va_up (oJ O 0) 0 v.toInt64))))) = some (t, O') ∧ R = some (r, M') ∧ oI M' 0 = t ∧ oI O' 1 = 1 ∧ (t = 0 → lg_cmp (oJ O' 0 0) r.toInt64 = 0) ∧ RE (N + 360) V0 V1 V2 V3 V4 V5 V9 V10 V12 K IM IQ IS IN M' O' := by
  obtain ⟨g, nn, H⟩ := H
  have H0 := H
  obtain ⟨⟨c1, c2, c3, c4, c5, c6, c7, c8⟩, hT, hP, hE, hA, hF, hB, hG, hC, hI, hO⟩ := H
  have g0 := w_g0 c1
  have g1 := w_g1 c1
  have g3 := w_g3 c1
  have c4' : oA (sI M 0 (0 : Int32)) 6 = Nf g := c4
  rw [decide_eq_true (show oI O 1 = 1 from hO), e_gd]
  rcases h with ⟨h1, h2⟩ | ⟨v, h1, h2⟩
  · refine ⟨1, nI 0, O, sI M 0 (nI 1), by rw [h1]; rfl, h2, rfl, hO, fun h => absurd h (by decide), H0.s0 _⟩
  · refine ⟨0, v, sJ O 0 (va_up (oJ O 0) 0 v.toInt64), sI M 0 (nI 0), by rw [h1]; rfl, h2, rfl, hO, fun _ => (lg_cmp_eq _ _).mpr (by rw [oJ_self, uv_eq rfl]), ?_⟩
    exact H0.same (by omega) ⟨rfl, rfl, rfl, rfl, rfl, rfl, rfl, rfl, rfl, rfl, rfl, rfl, rfl, rfl, rfl, rfl, rfl, rfl, rfl⟩ rfl rfl rfl hO
theorem thr1 (a b : Int32) : pX11_person_j19 M a b = some (nI 0, sI M 0 (nI 1)) := by
  unfold pX11_person_j19 pX11_person_j24 pX11_throwsIf
  rw [if_neg (show ¬ (1 : Int32) = 0 by decide), show z01 (1 : Int32) = true by decide, e_gd, e_bd, if_neg (show ¬ (1 : Int32) = 0 by decide)]; rfl
theorem thr2 (a b : Int32) : pX11_mean_j30 M a b = some (nI 0, sI M 0 (nI 1)) := by
  unfold pX11_mean_j30 pX11_mean_j35 pX11_throwsIf
  rw [if_neg (show ¬ (1 : Int32) = 0 by decide), show z01 (1 : Int32) = true by decide, e_gd, e_bd, if_neg (show ¬ (1 : Int32) = 0 by decide)]; rfl
theorem thr0 : pX11_throwsIf M (0 : Int32) = some ((0 : Int32), sI M 0 (0 : Int32)) := by
  unfold pX11_throwsIf
  rw [if_pos rfl, show z01 (0 : Int32) = true by decide, e_gd]
theorem st_person (H : RE N V0 V1 V2 V3 V4 V5 V9 V10 V12 K IM IQ IS IN M O) (a b : Int32) : ∃ t r O' M', pL_person V0 V2 V3 O a b = some (t, O') ∧ pX11_person M a b = some (r, M') ∧ oI M' 0 = t ∧ oI O' 1 = 1 ∧ (t = 0 → lg_cmp (oJ O' 0 0) r.toInt64 = 0) ∧ RE (N + 360) V0 V1 V2 V3 V4 V5 V9 V10 V12 K IM IQ IS IN M' O' := by
  have HH := H
  obtain ⟨g, nn, H⟩ := H
  have H0 := H
  obtain ⟨⟨c1, c2, c3, c4, c5, c6, c7, c8⟩, hT, hP, hE, hA, hF, hB, hG, hC, hI, hO⟩ := H
  have g0 := w_g0 c1
  have g1 := w_g1 c1
  have g3 := w_g3 c1
  have c4' : oA (sI M 0 (0 : Int32)) 6 = Nf g := c4
  have key : (pX10_person V0 V2 V3 a b = some none ∧ pX11_person M a b = some (nI 0, sI M 0 (nI 1))) ∨ ∃ v, pX10_person V0 V2 V3 a b = some (some v) ∧ pX11_person M a b = some (v, sI M 0 (nI 0)) := by
    unfold pX10_person pX11_person
    rcases p_isP (V0 := V0) c1 c5 c4 a with ⟨x1, x2⟩ | ⟨q, hq, rfl, x1, x2⟩
    · exact Or.inl ⟨by rw [x1, e_bd, if_pos l_0.symm], by rw [x2, e_bd, if_pos l_0.symm, thr1]⟩
    · rw [x1, x2, e_bd, e_bd, if_neg n1_ne, if_neg n1_ne]
      have q6 : q < 6 := by omega
      have s6 := q_6 c5 q hq
      have s2 := s_2 c6 q hq
      have s1 := s_1 c6 q q6
      rcases in_c b 0 6 (by omega) (by omega) with ⟨y1, y2⟩ | ⟨y1, y2, y3⟩ | ⟨n, n1, n2, rfl, y1, y2, y3⟩
      · have y2' : pX11_isIn b (0 : Int32) (6 : Int32) = some (nI 0) := y2
        have no : ∀ k, k < 7 → ¬ b = nI k := fun k hk e => by rw [e] at y1; exact absurd y1 (nI_nlt (Nat.zero_le _) (by omega))
        refine Or.inl ⟨?_, by rw [y2', e_bd, if_pos l_0.symm, thr1]⟩
        rw [if_neg (show ¬ b = (0 : Int32) from no 0 (by omega)), if_neg (show ¬ b = (1 : Int32) from no 1 (by omega)), if_neg (show ¬ b = (2 : Int32) from no 2 (by omega)), if_neg (show ¬ b = (3 : Int32) from no 3 (by omega)), if_neg (show ¬ b = (4 : Int32) from no 4 (by omega)), if_neg (show ¬ b = (5 : Int32) from no 5 (by omega)), if_neg (show ¬ b = (6 : Int32) from no 6 (by omega))]
      · have y3' : pX11_isIn b (0 : Int32) (6 : Int32) = some (nI 0) := y3
        have no : ∀ k, k < 7 → ¬ b = nI k := fun k hk e => by rw [e] at y2; exact absurd (nI_le (show k ≤ 6 by omega) (by omega)) y2
        refine Or.inl ⟨?_, by rw [y3', e_bd, if_pos l_0.symm, thr1]⟩
        rw [if_neg (show ¬ b = (0 : Int32) from no 0 (by omega)), if_neg (show ¬ b = (1 : Int32) from no 1 (by omega)), if_neg (show ¬ b = (2 : Int32) from no 2 (by omega)), if_neg (show ¬ b = (3 : Int32) from no 3 (by omega)), if_neg (show ¬ b = (4 : Int32) from no 4 (by omega)), if_neg (show ¬ b = (5 : Int32) from no 5 (by omega)), if_neg (show ¬ b = (6 : Int32) from no 6 (by omega))]
      · have y3' : pX11_isIn (nI n) (0 : Int32) (6 : Int32) = some (nI 1) := y3
        rw [y3', e_bd, if_neg n1_ne]
        unfold pX11_person_j24
        rw [thr0, e_bd, if_pos rfl]
        rcases (by omega : n = 0 ∨ n = 1 ∨ n = 2 ∨ n = 3 ∨ n = 4 ∨ n = 5 ∨ n = 6) with rfl | rfl | rfl | rfl | rfl | rfl | rfl
        · refine Or.inr ⟨nI (g (21 + q)), ?_, ?_⟩
          · rw [if_pos l_0.symm]; simp (disch := omega) only [l_0, l_1, l_2, l_3, l_4, l_5, l_6, l_7, l_8, l_9, l_10, l_11, l_12, l_13, l_14, l_15, l_16, l_17, l_18, l_19, l_20, l_21, l_22, l_23, l_24, l_25, l_26, l_27, l_28, l_29, l_30, l_31, l_32, l_33, l_34, l_35, l_36, l_40, l_41, l_48, l_56, l_57, l_59, l_60, l_61, l_62, l_63, l_79, l_81, l_88, l_93, l_97, l_99, l_105, l_117, l_121, l_122, l_125, l_127, l_131, l_179, l_185, l_193, l_197, l_200, l_201, l_210, l_255, l_390, l_400, l_616, l_900, l_940, l_999, l_1000, l_1024, e_ltT, e_ltF, e_leT, e_leF, e_eqT, e_eqF, e_cl, e_in, e_gd, e_bd, e_ne, e_en, e_nlt, e_ltn, e_len, e_nle, e_nn, e_z0, e_z1, nI_add, pk_mul, e_sub, Nf_app, e_refl, e_reflN, reduceIte, ite_true_, ite_false_, s6]
          · rw [if_pos l_0.symm]; simp (disch := omega) only [l_0, l_1, l_2, l_3, l_4, l_5, l_6, l_7, l_8, l_9, l_10, l_11, l_12, l_13, l_14, l_15, l_16, l_17, l_18, l_19, l_20, l_21, l_22, l_23, l_24, l_25, l_26, l_27, l_28, l_29, l_30, l_31, l_32, l_33, l_34, l_35, l_36, l_40, l_41, l_48, l_56, l_57, l_59, l_60, l_61, l_62, l_63, l_79, l_81, l_88, l_93, l_97, l_99, l_105, l_117, l_121, l_122, l_125, l_127, l_131, l_179, l_185, l_193, l_197, l_200, l_201, l_210, l_255, l_390, l_400, l_616, l_900, l_940, l_999, l_1000, l_1024, e_ltT, e_ltF, e_leT, e_leF, e_eqT, e_eqF, e_cl, e_in, e_gd, e_bd, e_ne, e_en, e_nlt, e_ltn, e_len, e_nle, e_nn, e_z0, e_z1, nI_add, pk_mul, e_sub, Nf_app, e_refl, e_reflN, reduceIte, ite_true_, ite_false_, oI_sI, oI_sL, oI_sW, oI_sA, oI_sJ, oI_sX, oL_sI, oL_sL, oL_sW, oL_sA, oL_sJ, oL_sX, oW_sI, oW_sL, oW_sW, oW_sA, oW_sJ, oW_sX, oA_sI, oA_sL, oA_sW, oA_sA, oA_sJ, oA_sX, oJ_sI, oJ_sL, oJ_sW, oJ_sA, oJ_sJ, oJ_sX, oX_sI, oX_sL, oX_sW, oX_sA, oX_sJ, oX_sX, Nat.reduceEqDiff, n10, n01, c4]
        · refine Or.inr ⟨nI (g (179 + q)), ?_, ?_⟩
          · rw [if_neg (by decide), if_pos l_1.symm]; simp (disch := omega) only [l_0, l_1, l_2, l_3, l_4, l_5, l_6, l_7, l_8, l_9, l_10, l_11, l_12, l_13, l_14, l_15, l_16, l_17, l_18, l_19, l_20, l_21, l_22, l_23, l_24, l_25, l_26, l_27, l_28, l_29, l_30, l_31, l_32, l_33, l_34, l_35, l_36, l_40, l_41, l_48, l_56, l_57, l_59, l_60, l_61, l_62, l_63, l_79, l_81, l_88, l_93, l_97, l_99, l_105, l_117, l_121, l_122, l_125, l_127, l_131, l_179, l_185, l_193, l_197, l_200, l_201, l_210, l_255, l_390, l_400, l_616, l_900, l_940, l_999, l_1000, l_1024, e_ltT, e_ltF, e_leT, e_leF, e_eqT, e_eqF, e_cl, e_in, e_gd, e_bd, e_ne, e_en, e_nlt, e_ltn, e_len, e_nle, e_nn, e_z0, e_z1, nI_add, pk_mul, e_sub, Nf_app, e_refl, e_reflN, reduceIte, ite_true_, ite_false_, s2]
          · rw [if_neg (by decide), if_pos l_1.symm]; simp (disch := omega) only [l_0, l_1, l_2, l_3, l_4, l_5, l_6, l_7, l_8, l_9, l_10, l_11, l_12, l_13, l_14, l_15, l_16, l_17, l_18, l_19, l_20, l_21, l_22, l_23, l_24, l_25, l_26, l_27, l_28, l_29, l_30, l_31, l_32, l_33, l_34, l_35, l_36, l_40, l_41, l_48, l_56, l_57, l_59, l_60, l_61, l_62, l_63, l_79, l_81, l_88, l_93, l_97, l_99, l_105, l_117, l_121, l_122, l_125, l_127, l_131, l_179, l_185, l_193, l_197, l_200, l_201, l_210, l_255, l_390, l_400, l_616, l_900, l_940, l_999, l_1000, l_1024, e_ltT, e_ltF, e_leT, e_leF, e_eqT, e_eqF, e_cl, e_in, e_gd, e_bd, e_ne, e_en, e_nlt, e_ltn, e_len, e_nle, e_nn, e_z0, e_z1, nI_add, pk_mul, e_sub, Nf_app, e_refl, e_reflN, reduceIte, ite_true_, ite_false_, oI_sI, oI_sL, oI_sW, oI_sA, oI_sJ, oI_sX, oL_sI, oL_sL, oL_sW, oL_sA, oL_sJ, oL_sX, oW_sI, oW_sL, oW_sW, oW_sA, oW_sJ, oW_sX, oA_sI, oA_sL, oA_sW, oA_sA, oA_sJ, oA_sX, oJ_sI, oJ_sL, oJ_sW, oJ_sA, oJ_sJ, oJ_sX, oX_sI, oX_sL, oX_sW, oX_sA, oX_sJ, oX_sX, Nat.reduceEqDiff, n10, n01, c4]
        · refine Or.inr ⟨nI (g (125 + q)), ?_, ?_⟩
          · rw [if_neg (by decide), if_neg (by decide), if_pos l_2.symm]; simp (disch := omega) only [l_0, l_1, l_2, l_3, l_4, l_5, l_6, l_7, l_8, l_9, l_10, l_11, l_12, l_13, l_14, l_15, l_16, l_17, l_18, l_19, l_20, l_21, l_22, l_23, l_24, l_25, l_26, l_27, l_28, l_29, l_30, l_31, l_32, l_33, l_34, l_35, l_36, l_40, l_41, l_48, l_56, l_57, l_59, l_60, l_61, l_62, l_63, l_79, l_81, l_88, l_93, l_97, l_99, l_105, l_117, l_121, l_122, l_125, l_127, l_131, l_179, l_185, l_193, l_197, l_200, l_201, l_210, l_255, l_390, l_400, l_616, l_900, l_940, l_999, l_1000, l_1024, e_ltT, e_ltF, e_leT, e_leF, e_eqT, e_eqF, e_cl, e_in, e_gd, e_bd, e_ne, e_en, e_nlt, e_ltn, e_len, e_nle, e_nn, e_z0, e_z1, nI_add, pk_mul, e_sub, Nf_app, e_refl, e_reflN, reduceIte, ite_true_, ite_false_, s1]
          · rw [if_neg (by decide), if_neg (by decide), if_pos l_2.symm]; simp (disch := omega) only [l_0, l_1, l_2, l_3, l_4, l_5, l_6, l_7, l_8, l_9, l_10, l_11, l_12, l_13, l_14, l_15, l_16, l_17, l_18, l_19, l_20, l_21, l_22, l_23, l_24, l_25, l_26, l_27, l_28, l_29, l_30, l_31, l_32, l_33, l_34, l_35, l_36, l_40, l_41, l_48, l_56, l_57, l_59, l_60, l_61, l_62, l_63, l_79, l_81, l_88, l_93, l_97, l_99, l_105, l_117, l_121, l_122, l_125, l_127, l_131, l_179, l_185, l_193, l_197, l_200, l_201, l_210, l_255, l_390, l_400, l_616, l_900, l_940, l_999, l_1000, l_1024, e_ltT, e_ltF, e_leT, e_leF, e_eqT, e_eqF, e_cl, e_in, e_gd, e_bd, e_ne, e_en, e_nlt, e_ltn, e_len, e_nle, e_nn, e_z0, e_z1, nI_add, pk_mul, e_sub, Nf_app, e_refl, e_reflN, reduceIte, ite_true_, ite_false_, oI_sI, oI_sL, oI_sW, oI_sA, oI_sJ, oI_sX, oL_sI, oL_sL, oL_sW, oL_sA, oL_sJ, oL_sX, oW_sI, oW_sL, oW_sW, oW_sA, oW_sJ, oW_sX, oA_sI, oA_sL, oA_sW, oA_sA, oA_sJ, oA_sX, oJ_sI, oJ_sL, oJ_sW, oJ_sA, oJ_sJ, oJ_sX, oX_sI, oX_sL, oX_sW, oX_sA, oX_sJ, oX_sX, Nat.reduceEqDiff, n10, n01, c4]
        · refine Or.inr ⟨nI (kc (hr g q) (g (125 + q))), ?_, ?_⟩
          · rw [if_neg (by decide), if_neg (by decide), if_neg (by decide), if_pos l_3.symm, c_knots c1 c2 c6 q6, e_bd]
          · rw [if_neg (by decide), if_neg (by decide), if_neg (by decide), if_pos l_3.symm, r_knots c1 c2 c4' q6, e_bd]; rfl
        · refine Or.inr ⟨nI (kh g q (g (125 + q))), ?_, ?_⟩
          · rw [if_neg (by decide), if_neg (by decide), if_neg (by decide), if_neg (by decide), if_pos l_4.symm, c_oh c1 c2 c5 c6 q6, e_bd]
          · rw [if_neg (by decide), if_neg (by decide), if_neg (by decide), if_neg (by decide), if_pos l_4.symm]
            by_cases cz : g (125 + q) = 0
            · have e : pX11_knotHolds (sI M 0 (0 : Int32)) (nI q) (0 : Int32) = some (nI 0) := r_kh_out c2 c4' q6 (k := 0) (by omega) (by omega)
              have k0 : kh g q 0 = 0 := by unfold kh kn; simp [kr]
              rw [e, e_bd, cz, k0]; rfl
            · have e : pX11_knotHolds (sI M 0 (0 : Int32)) (nI q) (0 : Int32) = some (nI (kh g q (g (125 + q) - 0))) := r_kh c1 c2 c4' q6 (k := 0) (by omega)
              rw [e, e_bd, Nat.sub_zero]; rfl
        · refine Or.inr ⟨nI (hs g q), ?_, ?_⟩
          · rw [if_neg (by decide), if_neg (by decide), if_neg (by decide), if_neg (by decide), if_neg (by decide), if_pos l_5.symm, c_holds c1 c2 c5 c6 q6, e_bd]
          · rw [if_neg (by decide), if_neg (by decide), if_neg (by decide), if_neg (by decide), if_neg (by decide), if_pos l_5.symm, r_holds c1 c2 c4' q6, e_bd]; rfl
        · refine Or.inr ⟨nI (b01 (ns g q)), ?_, ?_⟩
          · rw [if_neg (by decide), if_neg (by decide), if_neg (by decide), if_neg (by decide), if_neg (by decide), if_neg (by decide), if_pos l_6.symm, c_nest c2 c6 q6, e_bd]
            cases ns g q
            · rw [b01_f, if_pos l_0.symm]; rfl
            · rw [b01_t, if_neg n1_ne]; rfl
          · rw [if_neg (by decide), if_neg (by decide), if_neg (by decide), if_neg (by decide), if_neg (by decide), if_neg (by decide), r_nest c2 c4' q6, e_bd]
            cases ns g q
            · rw [b01_f, if_pos l_0.symm]; rfl
            · rw [b01_t, if_neg n1_ne]; rfl
  obtain ⟨t, r, O', M', z1, z2⟩ := st_thr HH key
  refine ⟨t, r, O', M', ?_, z2⟩
  rw [← z1]
  unfold pL_person
  congr 2
  funext r
  cases r <;> rfl
theorem st_mean (H : RE N V0 V1 V2 V3 V4 V5 V9 V10 V12 K IM IQ IS IN M O) (a b : Int32) : ∃ t r O' M', pL_mean V0 V2 V3 O a b = some (t, O') ∧ pX11_mean M a b = some (r, M') ∧ oI M' 0 = t ∧ oI O' 1 = 1 ∧ (t = 0 → lg_cmp (oJ O' 0 0) r.toInt64 = 0) ∧ RE (N + 360) V0 V1 V2 V3 V4 V5 V9 V10 V12 K IM IQ IS IN M' O' := by
  have HH := H
  obtain ⟨g, nn, H⟩ := H
  have H0 := H
  obtain ⟨⟨c1, c2, c3, c4, c5, c6, c7, c8⟩, hT, hP, hE, hA, hF, hB, hG, hC, hI, hO⟩ := H
  have g0 := w_g0 c1
  have g1 := w_g1 c1
  have g3 := w_g3 c1
  have c4' : oA (sI M 0 (0 : Int32)) 6 = Nf g := c4
  have key : (pX10_mean V0 V2 V3 a b = some none ∧ pX11_mean M a b = some (nI 0, sI M 0 (nI 1))) ∨ ∃ v, pX10_mean V0 V2 V3 a b = some (some v) ∧ pX11_mean M a b = some (v, sI M 0 (nI 0)) := by
    unfold pX10_mean pX11_mean
    rcases p_isP (V0 := V0) c1 c5 c4 a with ⟨x1, x2⟩ | ⟨q, hq, rfl, x1, x2⟩
    · exact Or.inl ⟨by rw [x1, e_bd, if_pos l_0.symm], by rw [x2, e_bd, if_pos l_0.symm, thr2]⟩
    · rw [x1, x2, e_bd, e_bd, if_neg n1_ne, if_neg n1_ne]
      have q6 : q < 6 := by omega
      have l8 := c2.1 q q6
      rcases in_c b 0 1 (by omega) (by omega) with ⟨y1, y2⟩ | ⟨y1, y2, y3⟩ | ⟨n, n1, n2, rfl, y1, y2, y3⟩
      · have y2' : pX11_isIn b (0 : Int32) (1 : Int32) = some (nI 0) := y2
        exact Or.inl ⟨by rw [if_pos (show b < 0 from y1)], by rw [y2', e_bd, if_pos l_0.symm, thr2]⟩
      · have y3' : pX11_isIn b (0 : Int32) (1 : Int32) = some (nI 0) := y3
        exact Or.inl ⟨by rw [if_neg (show ¬ b < 0 from y1), if_neg (show ¬ b ≤ (1 : Int32) from y2)], by rw [y3', e_bd, if_pos l_0.symm, thr2]⟩
      · have y3' : pX11_isIn (nI n) (0 : Int32) (1 : Int32) = some (nI 1) := y3
        have i1 : inB ((125 : Int32) + nI q) 390 = true := by rw [l_125, nI_add]; exact e_in (by omega) (by omega)
        have e1 : oA M 6 ((125 : Int32) + nI q).toNatClampNeg = nI (g (125 + q)) := by rw [l_125, nI_add, e_cl (by omega), c4, Nf_app]
        rw [y3', e_bd, if_neg n1_ne, if_neg (show ¬ nI n < 0 from y1), if_pos (show nI n ≤ (1 : Int32) from y2), c_knots c1 c2 c6 q6, e_bd, i1, e_gd, e1]
        by_cases cz : g (125 + q) = 0
        · have k0 : kc (hr g q) (g (125 + q)) = 0 := by have := kc_le (hr g q) (g (125 + q)); omega
          refine Or.inl ⟨?_, ?_⟩
          · rw [k0, if_neg (by decide)]
          · rw [cz, if_pos l_0.symm, thr2]
        · have kp := kc_pos (hr g q) (show 0 < g (125 + q) by omega)
          have kl := kc_le (hr g q) (g (125 + q))
          have hsl := hs_le c1 c2 (q := q) (by omega)
          have ra := r_meanA (hs g q) (by omega) (kc (hr g q) (g (125 + q))) (by omega) kp
          have ca := c_meanA (hs g q) (by omega) (kc (hr g q) (g (125 + q))) (by omega) kp
          have gp : 0 < Nat.gcd (kc (hr g q) (g (125 + q))) (hs g q) := Nat.gcd_pos_of_pos_left _ kp
          have gl : Nat.gcd (kc (hr g q) (g (125 + q))) (hs g q) ≤ kc (hr g q) (g (125 + q)) := Nat.gcd_le_left _ kp
          rw [← r_mean_z (sI M 0 (0 : Int32)) (nI q) (nI n)] at ra
          rw [← c_mean_z V0 V2 V3 (nI n)] at ca
          generalize hgc : Nat.gcd (kc (hr g q) (g (125 + q))) (hs g q) = gc at *
          have nz : ¬ nI gc = (0 : Int32) := fun e => by have := (nI_eq (by omega) (by omega)).mp (show nI gc = nI 0 from e); omega
          have nz0 : ¬ nI (g (125 + q)) = (0 : Int32) := fun e => by have := (nI_eq (by omega) (by omega)).mp (show nI (g (125 + q)) = nI 0 from e); omega
          have p1 : (1 : Int32) ≤ nI (kc (hr g q) (g (125 + q))) := nI_le (show 1 ≤ _ from kp) (by omega)
          rw [if_pos p1, c_holds c1 c2 c5 c6 q6, e_bd, ca, e_bd, if_neg nz0]
          unfold pX11_mean_j35
          rw [thr0, e_bd, if_pos rfl, r_knots c1 c2 c4' q6, e_bd, r_holds c1 c2 c4' q6, e_bd, ra, e_bd, e_bd, e_bd, decide_eq_true nz, e_gd, e_gd]
          have d1 : nI (hs g q) / nI gc = nI (hs g q / gc) := pk_div (by omega) (by omega) (by omega)
          have d2 : nI (kc (hr g q) (g (125 + q))) / nI gc = nI (kc (hr g q) (g (125 + q)) / gc) := pk_div (by omega) (by omega) (by omega)
          rw [d1, d2]
          rcases (by omega : n = 0 ∨ n = 1) with rfl | rfl
          · exact Or.inr ⟨_, by rw [if_pos l_0.symm], by rw [if_pos l_0.symm]; rfl⟩
          · exact Or.inr ⟨_, by rw [if_neg n1_ne], by rw [if_neg n1_ne]; rfl⟩
  obtain ⟨t, r, O', M', z1, z2⟩ := st_thr HH key
  refine ⟨t, r, O', M', ?_, z2⟩
  rw [← z1]
  unfold pL_mean
  congr 2
  funext r
  cases r <;> rfl
theorem Fl1.c0 {V0 V0' M M' : Ob} {a b c : Nat} (e0 : oI V0' a = oI V0 a) (e1 : oI M' b = oI M b) (e2 : oI M' c = oI M c) (H : Fl1 V0 M a b c) : Fl1 V0' M' a b c := by
  unfold Fl1 at H ⊢
  rw [e0, e1, e2]; exact H
theorem st_round (H : RE N V0 V1 V2 V3 V4 V5 V9 V10 V12 K IM IQ IS IN M O) (a : Int32) : ∃ o V0' V8' M', pX10_round V0 V8 V2 V3 a = some (o, V0', V8') ∧ pX11_round M a = some (o, M') ∧ RE (N + 360) V0' V1 V2 V3 V4 V5 V9 V10 V12 K IM IQ IS IN M' O := by
  obtain ⟨g, nn, H⟩ := H
  have H0 := H
  obtain ⟨⟨c1, c2, c3, c4, c5, c6, c7, c8⟩, hT, hP, hE, hA, hF, hB, hG, hC, hI, hO⟩ := H
  have g0 := w_g0 c1
  have g1 := w_g1 c1
  have g3 := w_g3 c1
  have c4' : oA (sI M 0 (0 : Int32)) 6 = Nf g := c4
  unfold pX10_round pX11_round
  rcases in_c a 0 999 (by omega) (by omega) with ⟨y1, y2⟩ | ⟨y1, y2, y3⟩ | ⟨n, n1, n2, rfl, y1, y2, y3⟩
  · have y2' : pX11_isIn a (0 : Int32) (999 : Int32) = some (nI 0) := y2
    exact ⟨(-1 : Int32), V0, V8, sI M 0 (0 : Int32), by rw [if_pos (show a < 0 from y1)], by rw [y2', e_bd, if_pos l_0.symm], H0.s0 _⟩
  · have y3' : pX11_isIn a (0 : Int32) (999 : Int32) = some (nI 0) := y3
    exact ⟨(-1 : Int32), V0, V8, sI M 0 (0 : Int32), by rw [if_neg (show ¬ a < 0 from y1), if_neg (show ¬ a ≤ (999 : Int32) from y2)], by rw [y3', e_bd, if_pos l_0.symm], H0.s0 _⟩
  · have y3' : pX11_isIn (nI n) (0 : Int32) (999 : Int32) = some (nI 1) := y3
    have p64 := pow_le64 g1
    have p1 : 1 ≤ 2 ^ g 1 := Nat.one_le_two_pow
    obtain ⟨W, w1, w2⟩ := c_costs c1 c2 c5 c6 (nI n) fu 0 (W := V8) (by omega) (by rw [fu_eq]; omega) (fun q hq => by omega)
    have w1' : pX3_bestRound_l3 V2 V3 (nI n) fu (0 : Int32) V8 = some W := w1
    have w3 : pX3_bestRound_l79 W V2 V3 (nI n) fu (0 : Int32) (0 : Int32) (1 : Int32) = some (nI (gRd g n (2 ^ g 1 - 1) 1 0 0)) := c_round_l c1 c2 c5 w2 (by omega) fu (2 ^ g 1 - 1) 1 0 0 (by omega) (by rw [fu_eq]; omega) (by omega) (by omega)
    have w4 : pX11_round_l25 (sI M 0 (0 : Int32)) (nI n) fu (0 : Int32) (0 : Int32) (1 : Int32) = some (nI (gRd g n (2 ^ g 1 - 1) 1 0 0)) := r_round_l c1 c2 c4' (by omega) fu (2 ^ g 1 - 1) 1 0 0 (by omega) (by rw [fu_eq]; omega) (by omega) (by omega)
    have lt := gRd_lt (g := g) n (2 ^ g 1 - 1) 1 0 0 (by omega) (by omega)
    refine ⟨nI (pc (gRd g n (2 ^ g 1 - 1) 1 0 0)), sI V0 13 (nI (gRd g n (2 ^ g 1 - 1) 1 0 0)), W, sI (sI (sI M 0 (0 : Int32)) 25 (1 : Int32)) 24 (nI (gRd g n (2 ^ g 1 - 1) 1 0 0)), ?_, ?_, ?_⟩
    · unfold pX3_bestRound
      rw [if_neg (show ¬ nI n < 0 from y1), if_pos (show nI n ≤ (999 : Int32) from y2), w1', e_bd, w3, e_bd, e_bd, oI_sI, if_pos rfl, c_bits lt, e_bd]
    · rw [y3', e_bd, if_neg n1_ne, w4, e_bd, r_bits lt, e_bd]
    · obtain ⟨f1, f2, f3, f4⟩ := hF
      exact ⟨g, nn, ⟨c1, c2.mono (by omega), c3, c4, c5, c6, c7, c8⟩, hT, hP.of (by omega) (Sm.refl g) rfl rfl, hE, hA, ⟨f1, Or.inr ⟨rfl, rfl⟩, f3.c0 rfl rfl rfl, f4.c0 rfl rfl rfl⟩, hB, hG, hC, fun k hk => (hI k hk).c (by omega) rfl rfl rfl, hO⟩
theorem st_beds (H : RE N V0 V1 V2 V3 V4 V5 V9 V10 V12 K IM IQ IS IN M O) (hN : N < 1000000) : ∃ o V0' V8' M', pX10_beds V0 V8 V2 V3 = some (o, V0', V8') ∧ pX11_beds M = some (o, M') ∧ RE (N + 360) V0' V1 V2 V3 V4 V5 V9 V10 V12 K IM IQ IS IN M' O := by
  obtain ⟨g, nn, H⟩ := H
  have H0 := H
  obtain ⟨⟨c1, c2, c3, c4, c5, c6, c7, c8⟩, hT, hP, hE, hA, hF, hB, hG, hC, hI, hO⟩ := H
  have g0 := w_g0 c1
  have g1 := w_g1 c1
  have g3 := w_g3 c1
  have c4' : oA (sI M 0 (0 : Int32)) 6 = Nf g := c4
  obtain ⟨⟨r, W⟩, w1, b, w2, w3, w4⟩ := c_beds (W := V8) c1 c2 hN c5 c6
  have w2 : r = nI b := w2
  subst w2
  obtain ⟨⟨r, M'⟩, x1, ⟨b', x2, x3, x4⟩, X, Y, Z, x5⟩ := r_beds c1 c2 hN c4'
  have x2 : r = nI b' := x2
  have x5 : M' = sA (sA (sA (sI M 0 (0 : Int32)) 28 X) 27 Y) 26 Z := x5
  have bb := best_one w3 x3 w4 x4
  subst bb x2 x5
  have lt : b < 64 := by
    have h1 := w3.1
    have h2 : 2 ^ g 3 ≤ 2 ^ 4 := Nat.pow_le_pow_right (by omega) g3
    have h3 : (2 : Nat) ^ 4 = 16 := rfl
    omega
  refine ⟨nI (pc b), sI V0 14 (nI b), W, sI (sI (sA (sA (sA (sI M 0 (0 : Int32)) 28 X) 27 Y) 26 Z) 30 (1 : Int32)) 29 (nI b), ?_, ?_, ?_⟩
  · unfold pX10_beds
    rw [w1, e_bd, oI_sI, if_pos rfl, c_bits lt, e_bd]
  · unfold pX11_beds
    have x1' : ((pX11_laysBag (sI M 0 (0 : Int32))).bind fun r1 => (pX11_sleptOn r1.2).bind fun r3 => (pX11_beds_l20 r1.1 r3 r3 fu (0 : Int32) r1.2).bind fun r9 => pX11_beds_l54 r1.1 r3 fu r3 (1 : Int32) r9) = some (nI b, sA (sA (sA (sI M 0 (0 : Int32)) 28 X) 27 Y) 26 Z) := x1
    obtain ⟨r1, y1, y2⟩ := bd_some x1'
    obtain ⟨r3, y3, y4⟩ := bd_some y2
    obtain ⟨r9, y5, y6⟩ := bd_some y4
    rw [y1, e_bd, y3, e_bd, y5, e_bd, y6, e_bd, r_bits lt, e_bd]
  · obtain ⟨f1, f2, f3, f4⟩ := hF
    exact ⟨g, nn, ⟨c1, c2.mono (by omega), c3, c4, c5, c6, c7, c8⟩, hT, hP.of (by omega) (Sm.refl g) rfl rfl, hE, hA, ⟨f1, f2.c0 rfl rfl rfl, Or.inr ⟨rfl, rfl⟩, f4.c0 rfl rfl rfl⟩, hB, hG, hC, fun k hk => (hI k hk).c (by omega) rfl rfl rfl, hO⟩
theorem st_odds (H : RE N V0 V1 V2 V3 V4 V5 V9 V10 V12 K IM IQ IS IN M O) (a b c : Int32) : ∃ o V13' M', pX10_odds V0 V2 V13 V3 a b c = some (o, V13') ∧ pX11_odds M a b c = some (o, M') ∧ RE (N + 360) V0 V1 V2 V3 V4 V5 V9 V10 V12 K IM IQ IS IN M' O := by
  obtain ⟨g, nn, H⟩ := H
  have H0 := H
  obtain ⟨⟨c1, c2, c3, c4, c5, c6, c7, c8⟩, hT, hP, hE, hA, hF, hB, hG, hC, hI, hO⟩ := H
  have g0 := w_g0 c1
  have g1 := w_g1 c1
  have g3 := w_g3 c1
  have c4' : oA (sI M 0 (0 : Int32)) 6 = Nf g := c4
  unfold pX10_odds pX11_odds
  rcases p_isP (V0 := V0) c1 c5 c4' a with ⟨x1, x2⟩ | ⟨q, hq, rfl, x1, x2⟩
  · exact ⟨(-1 : Int32), V13, sI M 0 (0 : Int32), by rw [x1, e_bd, if_pos l_0.symm], by rw [x2, e_bd, if_pos l_0.symm], H0.s0 _⟩
  · rw [x1, x2, e_bd, e_bd, if_neg n1_ne, if_neg n1_ne]
    rcases in_c b 1 30 (by omega) (by omega) with ⟨y1, y2⟩ | ⟨y1, y2, y3⟩ | ⟨n, n1, n2, rfl, y1, y2, y3⟩
    · have y2' : pX11_isIn b (1 : Int32) (30 : Int32) = some (nI 0) := y2
      exact ⟨(-1 : Int32), V13, sI M 0 (0 : Int32), by rw [if_pos (show b < 1 from y1)], by rw [y2', e_bd, if_pos l_0.symm], H0.s0 _⟩
    · have y3' : pX11_isIn b (1 : Int32) (30 : Int32) = some (nI 0) := y3
      exact ⟨(-1 : Int32), V13, sI M 0 (0 : Int32), by rw [if_neg (show ¬ b < 1 from y1), if_neg (show ¬ b ≤ (30 : Int32) from y2)], by rw [y3', e_bd, if_pos l_0.symm], H0.s0 _⟩
    · have y3' : pX11_isIn (nI n) (1 : Int32) (30 : Int32) = some (nI 1) := y3
      obtain ⟨⟨r, W⟩, w1, w2⟩ := c_odds_l (V0 := V0) c1 c2 c3 c5 c6 (q := q) (n := n) (by omega) (by omega) c fu 0 V13 (by omega) (by rw [fu_eq]; omega)
      have w2 : r = _ := w2
      subst w2
      have w1' : pX10_odds_l27 V0 V2 V3 (nI q) (nI n) c fu (0 : Int32) (0 : Int32) V13 = some (nI (od g q (min 10 (400 - g 121)) c n), W) := w1
      have tr := r_tries (sI M 0 (0 : Int32))
      have h22 : ∀ k, k < 88 → oA (sA (sI M 0 (0 : Int32)) 22 (cpn (oA (sI M 0 (0 : Int32)) 6) (oA (sI M 0 (0 : Int32)) 22) 0 121 88)) 22 k = nI (g (121 + k)) := fun k hk => by
        rw [oA_self, cpn_in (by omega) (by omega), c4', Nf_app, Nat.sub_zero]
      generalize cpn (oA (sI M 0 (0 : Int32)) 6) (oA (sI M 0 (0 : Int32)) 22) 0 121 88 = X at tr h22
      obtain ⟨⟨r, M'⟩, z1, z2, y', z3⟩ := r_odds_l c1 c2 c3 (q := q) (n := n) (by omega) (by omega) c (sA (sI M 0 (0 : Int32)) 22 X) c4 h22 fu 0 (oI M 35) (by omega) (by rw [fu_eq]; omega)
      have z2 : r = _ := z2
      have z3 : M' = sI (sA (sI M 0 (0 : Int32)) 22 X) 35 y' := z3
      subst z2 z3
      have z1' : pX11_odds_l35 (nI q) (nI n) c fu (0 : Int32) (0 : Int32) (sI (sA (sI M 0 (0 : Int32)) 22 X) 35 (oI M 35)) = some (nI (od g q (min 10 (400 - g 121)) c n), sI (sA (sI M 0 (0 : Int32)) 22 X) 35 y') := z1
      have se : sI (sA (sI M 0 (0 : Int32)) 22 X) 35 (oI M 35) = sA (sI M 0 (0 : Int32)) 22 X := sI_self (sA (sI M 0 (0 : Int32)) 22 X) 35
      rw [se] at z1'
      refine ⟨nI (od g q (min 10 (400 - g 121)) c n), W, sI (sA (sI M 0 (0 : Int32)) 22 X) 35 y', ?_, ?_, ?_⟩
      · rw [if_neg (show ¬ nI n < 1 from y1), if_pos (show nI n ≤ (30 : Int32) from y2), w1', e_bd]
      · rw [y3', e_bd, if_neg n1_ne, tr, e_bd, z1', e_bd]
      · exact H0.same (by omega) ⟨rfl, rfl, rfl, rfl, rfl, rfl, rfl, rfl, rfl, rfl, rfl, rfl, rfl, rfl, rfl, rfl, rfl, rfl, rfl⟩ rfl rfl rfl hO
theorem st_said (H : RE N V0 V1 V2 V3 V4 V5 V9 V10 V12 K IM IQ IS IN M O) (a : Int32) : ∃ o M', pX10_said V0 V4 V2 V3 a = some o ∧ pX11_said M a = some (o, M') ∧ RE (N + 360) V0 V1 V2 V3 V4 V5 V9 V10 V12 K IM IQ IS IN M' O := by
  obtain ⟨g, nn, H⟩ := H
  have H0 := H
  obtain ⟨⟨c1, c2, c3, c4, c5, c6, c7, c8⟩, hT, hP, hE, hA, hF, hB, hG, hC, hI, hO⟩ := H
  have g0 := w_g0 c1
  have g1 := w_g1 c1
  have g3 := w_g3 c1
  have c4' : oA (sI M 0 (0 : Int32)) 6 = Nf g := c4
  unfold pX10_said pX11_said
  rw [c4', Nf_app]
  obtain ⟨_, ⟨e1, e2⟩ | ⟨f, s, o, e1, e2, e3, e4, e5, e6, e7, e8, e9, e10⟩⟩ := hE
  · exact ⟨(-1 : Int32), sI M 0 (0 : Int32), by rw [e2, if_pos l_0.symm], by rw [e1, if_pos l_0.symm], H0.s0 _⟩
  · have nz : ¬ nI o = (0 : Int32) := fun e => by have := (nI_eq (by omega) (by omega)).mp (show nI o = nI 0 from e); omega
    have nz2 : ¬ nI (g 209) = (0 : Int32) := fun e => by
      have h := e1.1
      have := (nI_eq (by omega) (by omega)).mp (show nI (g 209) = nI 0 from e); omega
    rw [e10, if_neg nz, if_neg nz2]
    by_cases c : (-1 : Int32) ≤ a
    · obtain ⟨r, X, x1, x2⟩ := p_said_l (V0 := V0) (M := sI M 0 (0 : Int32)) c1 c2 c4' c5 c6 e1 e2 (by omega) e6 e5 e7 a fu 0 0 (oA M 45) (by omega) (by rw [fu_eq]; omega) (by omega)
      have se : sA (sI M 0 (0 : Int32)) 45 (oA M 45) = sI M 0 (0 : Int32) := sA_self (sI M 0 (0 : Int32)) 45
      rw [se] at x2
      have x1' : pX10_said_l21 V0 V4 V2 V3 a fu (0 : Int32) (0 : Int32) = some r := x1
      have x2' : pX11_said_l27 a fu (0 : Int32) (0 : Int32) (sI M 0 (0 : Int32)) = some (r, sA (sI M 0 (0 : Int32)) 45 X) := x2
      refine ⟨r, sA (sI M 0 (0 : Int32)) 45 X, by rw [if_pos c]; exact x1', by rw [if_pos c]; exact x2', ?_⟩
      exact H0.same (by omega) ⟨rfl, rfl, rfl, rfl, rfl, rfl, rfl, rfl, rfl, rfl, rfl, rfl, rfl, rfl, rfl, rfl, rfl, rfl, rfl⟩ rfl rfl rfl hO
    · exact ⟨(-1 : Int32), sI M 0 (0 : Int32), by rw [if_neg c], by rw [if_neg c], H0.s0 _⟩
end
