/-! the reading of a sentence: a leaf -/
section
variable {tb : Nat → Nat} {V M S V2 : Ob} {z lim s : Nat} {g nn : Nat → Nat} {f : Nat → Cd}
theorem wp_ok (c : Nat) : wOk (some (wmp c)) = true := decide_eq_true (wmp_lt c)
theorem wp_n17 {c : Nat} (h : c ≤ 8) (hc : c ≠ 3) : ¬ (some (wmp c) : Option Nat) = some 17 := by
  rcases (by omega : c = 0 ∨ c = 1 ∨ c = 2 ∨ c = 4 ∨ c = 5 ∨ c = 6 ∨ c = 7 ∨ c = 8) with rfl | rfl | rfl | rfl | rfl | rfl | rfl | rfl <;> decide
theorem wp_n18 {c : Nat} (h : c ≤ 8) (hc : c ≠ 4) : ¬ (some (wmp c) : Option Nat) = some 18 := by
  rcases (by omega : c = 0 ∨ c = 1 ∨ c = 2 ∨ c = 3 ∨ c = 5 ∨ c = 6 ∨ c = 7 ∨ c = 8) with rfl | rfl | rfl | rfl | rfl | rfl | rfl | rfl <;> decide
theorem p_meas (hP : PS V M tb z lim) (hA : AW S) (HS : CS S f s) (HM : CM M f s) (hs : s < 40) {c : Nat} (h5 : 5 ≤ c) (hc : c ≤ 8) {q : Nat} (hq : q = 60 ∨ q = 61 ∨ q = 62) (ac : AC V M z) (q1 : oI V 4 = nI q) (q2 : oI M 11 = nI 3) (q3 : oI M 14 = nI q) :
    (∃ S' V' M', pX5_readPlain_j131 S V V2 (some (wmp c)) (nI q) = some (nI 1, S', V') ∧ oT M (nI c) = some (nI 1, M') ∧ LOK V2 tb z lim g f s c S M S' V' M') ∨
    (∃ S' V' M', pX5_readPlain_j131 S V V2 (some (wmp c)) (nI q) = some (nI 0, S', V') ∧ oT M (nI c) = some (nI 0, M') ∧ LBD tb M S' V' M') := by
  obtain ⟨V1, M1, x1, x2, x3, x4⟩ := p_adv hP ac
  unfold pX5_readPlain_j131 oT pX8_takeNumber
  rcases tk_num x3 with ⟨n1, n2⟩ | ⟨ac1, v, v1, v2, v3, v4, v5⟩
  · have n1 : (oI V1 4 = nI 3) = False := eq_false n1
    have n2 : (oI M1 11 = nI 2) = False := eq_false n2
    obtain ⟨V2', M2, b1, b2, b3, b4⟩ := p_bad x3 (k := 1) (by omega)
    obtain ⟨S', y1, y2, y3, ⟨n', y4, y5⟩, _⟩ := c_step hA HS.1 (by omega) (wmp_lt c) (nI q) (-nI 1)
    refine Or.inr ⟨S', V2', M2, ?_, ?_, b3, y2, ⟨n', y4, y5⟩, x4.gf.sf.trans b4.sf⟩
    · simp (disch := omega) only [l_0, l_1, l_2, l_3, l_4, l_5, l_6, l_7, l_8, l_9, l_10, l_11, l_12, l_13, l_14, l_15, l_16, l_17, l_18, l_19, l_20, l_21, l_22, l_23, l_24, l_25, l_26, l_27, l_28, l_29, l_30, l_31, l_32, l_33, l_34, l_35, l_36, l_40, l_41, l_48, l_56, l_57, l_59, l_60, l_61, l_62, l_63, l_79, l_81, l_88, l_93, l_97, l_99, l_105, l_117, l_121, l_122, l_125, l_127, l_131, l_179, l_185, l_193, l_197, l_200, l_201, l_210, l_255, l_390, l_400, l_616, l_900, l_940, l_999, l_1000, l_1024, e_ltT, e_ltF, e_leT, e_leF, e_eqT, e_eqF, e_cl, e_in, e_gd, e_bd, e_ne, e_en, e_nlt, e_ltn, e_len, e_nle, e_nn, e_z0, e_z1, nI_add, pk_mul, e_sub, Nf_app, e_refl, e_reflN, reduceIte, ite_true_, ite_false_, x1, n1, b1, y1]
    · simp (disch := omega) only [l_0, l_1, l_2, l_3, l_4, l_5, l_6, l_7, l_8, l_9, l_10, l_11, l_12, l_13, l_14, l_15, l_16, l_17, l_18, l_19, l_20, l_21, l_22, l_23, l_24, l_25, l_26, l_27, l_28, l_29, l_30, l_31, l_32, l_33, l_34, l_35, l_36, l_40, l_41, l_48, l_56, l_57, l_59, l_60, l_61, l_62, l_63, l_79, l_81, l_88, l_93, l_97, l_99, l_105, l_117, l_121, l_122, l_125, l_127, l_131, l_179, l_185, l_193, l_197, l_200, l_201, l_210, l_255, l_390, l_400, l_616, l_900, l_940, l_999, l_1000, l_1024, e_ltT, e_ltF, e_leT, e_leF, e_eqT, e_eqF, e_cl, e_in, e_gd, e_bd, e_ne, e_en, e_nlt, e_ltn, e_len, e_nle, e_nn, e_z0, e_z1, nI_add, pk_mul, e_sub, Nf_app, e_refl, e_reflN, reduceIte, ite_true_, ite_false_, q2, q3, x2, n2, b2]
  · obtain ⟨S', y1, y2, y3, y4⟩ := c_emit hA HS hs c q v
    obtain ⟨z1, z2⟩ := r_emit (x4.gf.cm HM) hs c q v
    have e4 : oI (cdM M1 s c q v) 4 = oI M1 4 := by unfold cdM; rw [oI_sI, if_neg (by omega), oI_sA]
    obtain ⟨V3, M3, w1, w2, w3, w4⟩ := p_adv (x3.cd s c q v) (ac1.of e4)
    refine Or.inl ⟨S', V3, M3, ?_, ?_, w3, y2, y3, (x4.gf.tf.cd s c q v).trans w4.gf.tf, q, v, ?_, y4, w4.gf.cm z2⟩
    · simp (disch := omega) only [l_0, l_1, l_2, l_3, l_4, l_5, l_6, l_7, l_8, l_9, l_10, l_11, l_12, l_13, l_14, l_15, l_16, l_17, l_18, l_19, l_20, l_21, l_22, l_23, l_24, l_25, l_26, l_27, l_28, l_29, l_30, l_31, l_32, l_33, l_34, l_35, l_36, l_40, l_41, l_48, l_56, l_57, l_59, l_60, l_61, l_62, l_63, l_79, l_81, l_88, l_93, l_97, l_99, l_105, l_117, l_121, l_122, l_125, l_127, l_131, l_179, l_185, l_193, l_197, l_200, l_201, l_210, l_255, l_390, l_400, l_616, l_900, l_940, l_999, l_1000, l_1024, e_ltT, e_ltF, e_leT, e_leF, e_eqT, e_eqF, e_cl, e_in, e_gd, e_bd, e_ne, e_en, e_nlt, e_ltn, e_len, e_nle, e_nn, e_z0, e_z1, nI_add, pk_mul, e_sub, Nf_app, e_refl, e_reflN, reduceIte, ite_true_, ite_false_, x1, v2, v4, w1, y1]
    · simp (disch := omega) only [l_0, l_1, l_2, l_3, l_4, l_5, l_6, l_7, l_8, l_9, l_10, l_11, l_12, l_13, l_14, l_15, l_16, l_17, l_18, l_19, l_20, l_21, l_22, l_23, l_24, l_25, l_26, l_27, l_28, l_29, l_30, l_31, l_32, l_33, l_34, l_35, l_36, l_40, l_41, l_48, l_56, l_57, l_59, l_60, l_61, l_62, l_63, l_79, l_81, l_88, l_93, l_97, l_99, l_105, l_117, l_121, l_122, l_125, l_127, l_131, l_179, l_185, l_193, l_197, l_200, l_201, l_210, l_255, l_390, l_400, l_616, l_900, l_940, l_999, l_1000, l_1024, e_ltT, e_ltF, e_leT, e_leF, e_eqT, e_eqF, e_cl, e_in, e_gd, e_bd, e_ne, e_en, e_nlt, e_ltn, e_len, e_nle, e_nn, e_z0, e_z1, nI_add, pk_mul, e_sub, Nf_app, e_refl, e_reflN, reduceIte, ite_true_, ite_false_, q2, q3, x2, v3, v5, z1, w2]
    · refine ⟨by show c ≤ 8 ∨ _; omega, by show q < 1000; omega, by show v < 1000; omega, fun h4 => ?_, fun _ _ => hq⟩
      have h4 : c = 4 := h4
      omega
theorem p_plain (hP : PS V M tb z lim) (hX : CX V2 M g nn) (hQ : WQ g) (hq : QR V2 g) (hA : AW S) (HS : CS S f s) (HM : CM M f s) (hs : s < 40) {c : Nat} (hc : c ≤ 8) :
    (∃ S' V' M', pX5_readPlain S V V2 (some (wmp c)) = some (nI 1, S', V') ∧ oT M (nI c) = some (nI 1, M') ∧ LOK V2 tb z lim g f s c S M S' V' M') ∨
    (∃ S' V' M', pX5_readPlain S V V2 (some (wmp c)) = some (nI 0, S', V') ∧ oT M (nI c) = some (nI 0, M') ∧ LBD tb M S' V' M') := by
  have g0 := w_g0 hQ
  have g1 := w_g1 hQ
  obtain ⟨nt, np, _⟩ := id hX.2.2
  have ok := wp_ok c
  by_cases c3 : c = 3
  · subst c3
    have e0 : oA M 6 0 = nI (g 0) := by rw [hX.2.1, Nf_app]
    have eq1 : pX5_readPlain S V V2 (some (wmp 3)) = ((pX8_takeName V (oJ V2 1) 8 (nI (g 0))).bind fun r28 => (pX5_addStep S (some (wmp 3)) (0 : Int32) r28.1).bind fun r30 => if r28.1 = (-1 : Int32) then some ((0 : Int32), r30, r28.2) else some ((1 : Int32), r30, r28.2)) := by
      unfold pX5_readPlain
      rw [ok, e_gd, if_pos (show (some (wmp 3) : Option Nat) = some 17 from rfl), q_0 hq]
    have eq2 : oT M (nI 3) = ((pX11_looksAt M (nI 0) (nI (g 0))).bind fun r45 => pX11_operand_j181 r45.2 (nI 3) r45.1) := by
      unfold oT
      simp (disch := omega) only [l_0, l_1, l_2, l_3, l_4, l_5, l_6, l_7, l_8, l_9, l_10, l_11, l_12, l_13, l_14, l_15, l_16, l_17, l_18, l_19, l_20, l_21, l_22, l_23, l_24, l_25, l_26, l_27, l_28, l_29, l_30, l_31, l_32, l_33, l_34, l_35, l_36, l_40, l_41, l_48, l_56, l_57, l_59, l_60, l_61, l_62, l_63, l_79, l_81, l_88, l_93, l_97, l_99, l_105, l_117, l_121, l_122, l_125, l_127, l_131, l_179, l_185, l_193, l_197, l_200, l_201, l_210, l_255, l_390, l_400, l_616, l_900, l_940, l_999, l_1000, l_1024, e_ltT, e_ltF, e_leT, e_leF, e_eqT, e_eqF, e_cl, e_in, e_gd, e_bd, e_ne, e_en, e_nlt, e_ltn, e_len, e_nle, e_nn, e_z0, e_z1, nI_add, pk_mul, e_sub, Nf_app, e_refl, e_reflN, reduceIte, ite_true_, ite_false_, e0]
    rw [eq1, eq2]
    exact p_name3 hP hX hA HS HM hs (by omega) (by omega) (by omega) nt (Or.inl rfl)
  · by_cases c4 : c = 4
    · subst c4
      have e1 : oA M 6 1 = nI (g 1) := by rw [hX.2.1, Nf_app]
      have eq1 : pX5_readPlain S V V2 (some (wmp 4)) = ((pX8_takeName V (oJ V2 5) 6 (nI (g 1))).bind fun r28 => (pX5_addStep S (some (wmp 4)) (0 : Int32) r28.1).bind fun r30 => if r28.1 = (-1 : Int32) then some ((0 : Int32), r30, r28.2) else some ((1 : Int32), r30, r28.2)) := by
        unfold pX5_readPlain
        rw [ok, e_gd, if_neg (wp_n17 (c := 4) (by omega) (by omega)), e_gd, if_pos (show (some (wmp 4) : Option Nat) = some 18 from rfl), q_4 hq]
      have eq2 : oT M (nI 4) = ((pX11_looksAt M (nI 8) (nI (g 1))).bind fun r45 => pX11_operand_j181 r45.2 (nI 4) r45.1) := by
        unfold oT
        simp (disch := omega) only [l_0, l_1, l_2, l_3, l_4, l_5, l_6, l_7, l_8, l_9, l_10, l_11, l_12, l_13, l_14, l_15, l_16, l_17, l_18, l_19, l_20, l_21, l_22, l_23, l_24, l_25, l_26, l_27, l_28, l_29, l_30, l_31, l_32, l_33, l_34, l_35, l_36, l_40, l_41, l_48, l_56, l_57, l_59, l_60, l_61, l_62, l_63, l_79, l_81, l_88, l_93, l_97, l_99, l_105, l_117, l_121, l_122, l_125, l_127, l_131, l_179, l_185, l_193, l_197, l_200, l_201, l_210, l_255, l_390, l_400, l_616, l_900, l_940, l_999, l_1000, l_1024, e_ltT, e_ltF, e_leT, e_leF, e_eqT, e_eqF, e_cl, e_in, e_gd, e_bd, e_ne, e_en, e_nlt, e_ltn, e_len, e_nle, e_nn, e_z0, e_z1, nI_add, pk_mul, e_sub, Nf_app, e_refl, e_reflN, reduceIte, ite_true_, ite_false_, e1]
      rw [eq1, eq2]
      exact p_name3 hP hX hA HS HM hs (by omega) (by omega) (by omega) np (Or.inr ⟨rfl, rfl⟩)
    · have n17 := wp_n17 hc c3
      have n18 := wp_n18 hc c4
      by_cases c2 : c ≤ 2
      · have m := m_no c2
        obtain ⟨S', y1, y2, y3, y4⟩ := c_emit hA HS hs c 0 0
        obtain ⟨z1, z2⟩ := r_emit HM hs c 0 0
        refine Or.inl ⟨S', V, cdM M s c 0 0, ?_, ?_, hP.cd s c 0 0, y2, y3, (TF.refl M).cd s c 0 0, 0, 0, ?_, y4, z2⟩
        · unfold pX5_readPlain
          rw [ok, e_gd, if_neg n17, e_gd, if_neg n18, m, e_bd]
          simp (disch := omega) only [l_0, l_1, l_2, l_3, l_4, l_5, l_6, l_7, l_8, l_9, l_10, l_11, l_12, l_13, l_14, l_15, l_16, l_17, l_18, l_19, l_20, l_21, l_22, l_23, l_24, l_25, l_26, l_27, l_28, l_29, l_30, l_31, l_32, l_33, l_34, l_35, l_36, l_40, l_41, l_48, l_56, l_57, l_59, l_60, l_61, l_62, l_63, l_79, l_81, l_88, l_93, l_97, l_99, l_105, l_117, l_121, l_122, l_125, l_127, l_131, l_179, l_185, l_193, l_197, l_200, l_201, l_210, l_255, l_390, l_400, l_616, l_900, l_940, l_999, l_1000, l_1024, e_ltT, e_ltF, e_leT, e_leF, e_eqT, e_eqF, e_cl, e_in, e_gd, e_bd, e_ne, e_en, e_nlt, e_ltn, e_len, e_nle, e_nn, e_z0, e_z1, nI_add, pk_mul, e_sub, Nf_app, e_refl, e_reflN, reduceIte, ite_true_, ite_false_, y1]
        · unfold oT
          simp (disch := omega) only [l_0, l_1, l_2, l_3, l_4, l_5, l_6, l_7, l_8, l_9, l_10, l_11, l_12, l_13, l_14, l_15, l_16, l_17, l_18, l_19, l_20, l_21, l_22, l_23, l_24, l_25, l_26, l_27, l_28, l_29, l_30, l_31, l_32, l_33, l_34, l_35, l_36, l_40, l_41, l_48, l_56, l_57, l_59, l_60, l_61, l_62, l_63, l_79, l_81, l_88, l_93, l_97, l_99, l_105, l_117, l_121, l_122, l_125, l_127, l_131, l_179, l_185, l_193, l_197, l_200, l_201, l_210, l_255, l_390, l_400, l_616, l_900, l_940, l_999, l_1000, l_1024, e_ltT, e_ltF, e_leT, e_leF, e_eqT, e_eqF, e_cl, e_in, e_gd, e_bd, e_ne, e_en, e_nlt, e_ltn, e_len, e_nle, e_nn, e_z0, e_z1, nI_add, pk_mul, e_sub, Nf_app, e_refl, e_reflN, reduceIte, ite_true_, ite_false_, z1]
        · refine ⟨by show c ≤ 8 ∨ _; omega, by show 0 < 1000; omega, by show 0 < 1000; omega, fun h4 => ?_, fun h5 => ?_⟩
          · have h4 : c = 4 := h4
            omega
          · have h5 : 5 ≤ c := h5
            omega
      · have m := m_yes (c := c) (by omega) hc
        have h5 : 5 ≤ c := by omega
        have cut : pX5_readPlain S V V2 (some (wmp c)) = if oI V 4 = nI 60 then pX5_readPlain_j131 S V V2 (some (wmp c)) (oI V 4) else if oI V 4 = nI 61 then pX5_readPlain_j131 S V V2 (some (wmp c)) (oI V 4) else if oI V 4 = nI 62 then pX5_readPlain_j131 S V V2 (some (wmp c)) (oI V 4) else (pX8_refuse V (nI 1)).bind fun r18 => gd (z01 r18.1) (some (r18.1, S, r18.2)) := by
          unfold pX5_readPlain
          rw [ok, e_gd, if_neg n17, e_gd, if_neg n18, m, e_bd, if_neg (show ¬ (1 : Int32) = 0 by decide)]
          rw [l_60, l_61, l_62, l_1]
        rw [cut]
        rcases tk_cmp hP with ⟨ac, q, q0, q1, q2, q3⟩ | ⟨⟨n60, n61, n62⟩, nm⟩
        · have e : (if oI V 4 = nI 60 then pX5_readPlain_j131 S V V2 (some (wmp c)) (oI V 4) else if oI V 4 = nI 61 then pX5_readPlain_j131 S V V2 (some (wmp c)) (oI V 4) else if oI V 4 = nI 62 then pX5_readPlain_j131 S V V2 (some (wmp c)) (oI V 4) else (pX8_refuse V (nI 1)).bind fun r18 => gd (z01 r18.1) (some (r18.1, S, r18.2))) = pX5_readPlain_j131 S V V2 (some (wmp c)) (nI q) := by
            rw [q1]
            rcases q0 with rfl | rfl | rfl
            · simp (disch := omega) only [l_0, l_1, l_2, l_3, l_4, l_5, l_6, l_7, l_8, l_9, l_10, l_11, l_12, l_13, l_14, l_15, l_16, l_17, l_18, l_19, l_20, l_21, l_22, l_23, l_24, l_25, l_26, l_27, l_28, l_29, l_30, l_31, l_32, l_33, l_34, l_35, l_36, l_40, l_41, l_48, l_56, l_57, l_59, l_60, l_61, l_62, l_63, l_79, l_81, l_88, l_93, l_97, l_99, l_105, l_117, l_121, l_122, l_125, l_127, l_131, l_179, l_185, l_193, l_197, l_200, l_201, l_210, l_255, l_390, l_400, l_616, l_900, l_940, l_999, l_1000, l_1024, e_ltT, e_ltF, e_leT, e_leF, e_eqT, e_eqF, e_cl, e_in, e_gd, e_bd, e_ne, e_en, e_nlt, e_ltn, e_len, e_nle, e_nn, e_z0, e_z1, nI_add, pk_mul, e_sub, Nf_app, e_refl, e_reflN, reduceIte, ite_true_, ite_false_, q1]
            · simp (disch := omega) only [l_0, l_1, l_2, l_3, l_4, l_5, l_6, l_7, l_8, l_9, l_10, l_11, l_12, l_13, l_14, l_15, l_16, l_17, l_18, l_19, l_20, l_21, l_22, l_23, l_24, l_25, l_26, l_27, l_28, l_29, l_30, l_31, l_32, l_33, l_34, l_35, l_36, l_40, l_41, l_48, l_56, l_57, l_59, l_60, l_61, l_62, l_63, l_79, l_81, l_88, l_93, l_97, l_99, l_105, l_117, l_121, l_122, l_125, l_127, l_131, l_179, l_185, l_193, l_197, l_200, l_201, l_210, l_255, l_390, l_400, l_616, l_900, l_940, l_999, l_1000, l_1024, e_ltT, e_ltF, e_leT, e_leF, e_eqT, e_eqF, e_cl, e_in, e_gd, e_bd, e_ne, e_en, e_nlt, e_ltn, e_len, e_nle, e_nn, e_z0, e_z1, nI_add, pk_mul, e_sub, Nf_app, e_refl, e_reflN, reduceIte, ite_true_, ite_false_, q1]
            · simp (disch := omega) only [l_0, l_1, l_2, l_3, l_4, l_5, l_6, l_7, l_8, l_9, l_10, l_11, l_12, l_13, l_14, l_15, l_16, l_17, l_18, l_19, l_20, l_21, l_22, l_23, l_24, l_25, l_26, l_27, l_28, l_29, l_30, l_31, l_32, l_33, l_34, l_35, l_36, l_40, l_41, l_48, l_56, l_57, l_59, l_60, l_61, l_62, l_63, l_79, l_81, l_88, l_93, l_97, l_99, l_105, l_117, l_121, l_122, l_125, l_127, l_131, l_179, l_185, l_193, l_197, l_200, l_201, l_210, l_255, l_390, l_400, l_616, l_900, l_940, l_999, l_1000, l_1024, e_ltT, e_ltF, e_leT, e_leF, e_eqT, e_eqF, e_cl, e_in, e_gd, e_bd, e_ne, e_en, e_nlt, e_ltn, e_len, e_nle, e_nn, e_z0, e_z1, nI_add, pk_mul, e_sub, Nf_app, e_refl, e_reflN, reduceIte, ite_true_, ite_false_, q1]
          rw [e]
          exact p_meas hP hA HS HM hs h5 hc q0 ac q1 q2 q3
        · obtain ⟨V', M', b1, b2, b3, b4⟩ := p_bad hP (k := 1) (by omega)
          refine Or.inr ⟨S, V', M', ?_, ?_, b3, hA, ⟨s, by omega, HS.1⟩, b4.sf⟩
          · rw [if_neg n60, if_neg n61, if_neg n62]
            simp (disch := omega) only [l_0, l_1, l_2, l_3, l_4, l_5, l_6, l_7, l_8, l_9, l_10, l_11, l_12, l_13, l_14, l_15, l_16, l_17, l_18, l_19, l_20, l_21, l_22, l_23, l_24, l_25, l_26, l_27, l_28, l_29, l_30, l_31, l_32, l_33, l_34, l_35, l_36, l_40, l_41, l_48, l_56, l_57, l_59, l_60, l_61, l_62, l_63, l_79, l_81, l_88, l_93, l_97, l_99, l_105, l_117, l_121, l_122, l_125, l_127, l_131, l_179, l_185, l_193, l_197, l_200, l_201, l_210, l_255, l_390, l_400, l_616, l_900, l_940, l_999, l_1000, l_1024, e_ltT, e_ltF, e_leT, e_leF, e_eqT, e_eqF, e_cl, e_in, e_gd, e_bd, e_ne, e_en, e_nlt, e_ltn, e_len, e_nle, e_nn, e_z0, e_z1, nI_add, pk_mul, e_sub, Nf_app, e_refl, e_reflN, reduceIte, ite_true_, ite_false_, b1]
          · unfold oT pX11_operand_j232
            rcases nm with n3 | ⟨q, q1, q2, q3⟩
            · have n3 : (oI M 11 = nI 3) = False := eq_false n3
              simp (disch := omega) only [l_0, l_1, l_2, l_3, l_4, l_5, l_6, l_7, l_8, l_9, l_10, l_11, l_12, l_13, l_14, l_15, l_16, l_17, l_18, l_19, l_20, l_21, l_22, l_23, l_24, l_25, l_26, l_27, l_28, l_29, l_30, l_31, l_32, l_33, l_34, l_35, l_36, l_40, l_41, l_48, l_56, l_57, l_59, l_60, l_61, l_62, l_63, l_79, l_81, l_88, l_93, l_97, l_99, l_105, l_117, l_121, l_122, l_125, l_127, l_131, l_179, l_185, l_193, l_197, l_200, l_201, l_210, l_255, l_390, l_400, l_616, l_900, l_940, l_999, l_1000, l_1024, e_ltT, e_ltF, e_leT, e_leF, e_eqT, e_eqF, e_cl, e_in, e_gd, e_bd, e_ne, e_en, e_nlt, e_ltn, e_len, e_nle, e_nn, e_z0, e_z1, nI_add, pk_mul, e_sub, Nf_app, e_refl, e_reflN, reduceIte, ite_true_, ite_false_, n3, b2]
            · simp (disch := omega) only [l_0, l_1, l_2, l_3, l_4, l_5, l_6, l_7, l_8, l_9, l_10, l_11, l_12, l_13, l_14, l_15, l_16, l_17, l_18, l_19, l_20, l_21, l_22, l_23, l_24, l_25, l_26, l_27, l_28, l_29, l_30, l_31, l_32, l_33, l_34, l_35, l_36, l_40, l_41, l_48, l_56, l_57, l_59, l_60, l_61, l_62, l_63, l_79, l_81, l_88, l_93, l_97, l_99, l_105, l_117, l_121, l_122, l_125, l_127, l_131, l_179, l_185, l_193, l_197, l_200, l_201, l_210, l_255, l_390, l_400, l_616, l_900, l_940, l_999, l_1000, l_1024, e_ltT, e_ltF, e_leT, e_leF, e_eqT, e_eqF, e_cl, e_in, e_gd, e_bd, e_ne, e_en, e_nlt, e_ltn, e_len, e_nle, e_nn, e_z0, e_z1, nI_add, pk_mul, e_sub, Nf_app, e_refl, e_reflN, reduceIte, ite_true_, ite_false_, q2, q3, b2]
end
