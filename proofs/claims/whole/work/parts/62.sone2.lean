/-! the reading of a sentence: one, in both: the step -/
section
variable {tb : Nat → Nat} {z lim : Nat} {V2 : Ob} {g nn : Nat → Nat} {rc ro : RdF}
theorem c_one0 {S V : Ob} (ok : wOk (oW V 8) = true) (n40 : ¬ oI V 4 = nI 40) (n13 : ¬ oW V 8 = some 13) (n : ∀ c, c ≤ 8 → ¬ oW V 8 = some (wmp c)) {V' : Ob} (b : pX8_refuse V (nI 1) = some (nI 0, V')) (d : Int32) : pX5_readOneF rc ro S V V2 d = some (nI 0, S, V') := by
  unfold pX5_readOneF
  rw [if_neg (by rw [l_40]; exact n40), b_none ok n13 n, e_bd, if_pos rfl]
  simp (disch := omega) only [l_0, l_1, l_2, l_3, l_4, l_5, l_6, l_7, l_8, l_9, l_10, l_11, l_12, l_13, l_14, l_15, l_16, l_17, l_18, l_19, l_20, l_21, l_22, l_23, l_24, l_25, l_26, l_27, l_28, l_29, l_30, l_31, l_32, l_33, l_34, l_35, l_36, l_40, l_41, l_48, l_56, l_57, l_59, l_60, l_61, l_62, l_63, l_79, l_81, l_88, l_93, l_97, l_99, l_105, l_117, l_121, l_122, l_125, l_127, l_131, l_179, l_185, l_193, l_197, l_200, l_201, l_210, l_255, l_390, l_400, l_616, l_900, l_940, l_999, l_1000, l_1024, e_ltT, e_ltF, e_leT, e_leF, e_eqT, e_eqF, e_cl, e_in, e_gd, e_bd, e_ne, e_en, e_nlt, e_ltn, e_len, e_nle, e_nn, e_z0, e_z1, nI_add, pk_mul, e_sub, Nf_app, e_refl, e_reflN, reduceIte, ite_true_, ite_false_, b]
theorem c_one1 {S V : Ob} (h : oI V 4 = nI 40 ∨ (¬ oI V 4 = nI 40 ∧ (oW V 8 = some 13 ∨ ∃ c, c ≤ 8 ∧ oW V 8 = some (wmp c)))) (d : Int32) : pX5_readOneF rc ro S V V2 d = pX5_readOneF_j25 rc ro S V V2 d := by
  unfold pX5_readOneF
  rcases h with h | ⟨n40, h⟩
  · rw [if_pos (by rw [l_40]; exact h)]
  · have e : pX5_beginsOne (oW V 8) = some (1 : Int32) := by
      rcases h with h | ⟨c, hc, h⟩
      · rw [h]; exact b_13
      · rw [h]; exact b_wmp hc
    rw [if_neg (by rw [l_40]; exact n40), e, e_bd, if_neg (by decide)]
theorem c_j25b {S V V' : Ob} {o d : Nat} (h4 : oI S 4 = nI o) (ho : o ≤ 20) (hd : d ≤ 9) (hb : o = 20 ∨ ¬ d ≤ 8) (b : pX8_refuse V (nI 4) = some (nI 0, V')) : pX5_readOneF_j25 rc ro S V V2 (nI d) = some (nI 0, S, V') := by
  have e : pX5_readOneF_j40 rc ro S V V2 = some (nI 0, S, V') := by
    unfold pX5_readOneF_j40
    simp (disch := omega) only [l_0, l_1, l_2, l_3, l_4, l_5, l_6, l_7, l_8, l_9, l_10, l_11, l_12, l_13, l_14, l_15, l_16, l_17, l_18, l_19, l_20, l_21, l_22, l_23, l_24, l_25, l_26, l_27, l_28, l_29, l_30, l_31, l_32, l_33, l_34, l_35, l_36, l_40, l_41, l_48, l_56, l_57, l_59, l_60, l_61, l_62, l_63, l_79, l_81, l_88, l_93, l_97, l_99, l_105, l_117, l_121, l_122, l_125, l_127, l_131, l_179, l_185, l_193, l_197, l_200, l_201, l_210, l_255, l_390, l_400, l_616, l_900, l_940, l_999, l_1000, l_1024, e_ltT, e_ltF, e_leT, e_leF, e_eqT, e_eqF, e_cl, e_in, e_gd, e_bd, e_ne, e_en, e_nlt, e_ltn, e_len, e_nle, e_nn, e_z0, e_z1, nI_add, pk_mul, e_sub, Nf_app, e_refl, e_reflN, reduceIte, ite_true_, ite_false_, b]
  unfold pX5_readOneF_j25
  by_cases c1 : o = 20
  · rw [if_pos (by rw [h4, l_20]; exact nI_le (by omega) (by omega)), e]
  · rw [if_neg (by rw [h4, l_20]; exact nI_ge (by omega) (by omega)), if_neg (by rw [l_8]; exact nI_ge (by omega) (by omega)), e]
theorem c_j25 {S V : Ob} {o d : Nat} (h4 : oI S 4 = nI o) (ho : o < 20) (hd : d ≤ 8) {b : Nat} (hb : (oI V 4 = nI 40 ∧ b = 1) ∨ (¬ oI V 4 = nI 40 ∧ b = 0)) : pX5_readOneF_j25 rc ro S V V2 (nI d) = pX5_readOneF_j70 rc ro (sI S 4 (nI (o + 1))) V V2 (nI d) (nI b) := by
  unfold pX5_readOneF_j25
  rw [if_neg (by rw [h4, l_20]; exact nI_ge (by omega) (by omega)), if_pos (by rw [l_8]; exact nI_le (by omega) (by omega)), h4, l_1, nI_add]
  rcases hb with ⟨h, rfl⟩ | ⟨h, rfl⟩
  · rw [if_pos (by rw [l_40]; exact h)]
  · rw [if_neg (by rw [l_40]; exact h), l_0]
theorem one_step {d : Nat} (hQ : WQ g) (hq : QR V2 g) (HC : d ≤ 8 → CND tb z lim V2 g nn rc (d + 1)) (HO : d ≤ 8 → ONE tb z lim V2 g nn ro (d + 1)) : ONE tb z lim V2 g nn (fun S Sa Sb c => pX5_readOneF rc ro S Sa Sb c) d := by
  intro S V M f s o t P ht
  obtain ⟨⟨hP, hM, h41, h42, h43, h44⟩, hX, hA, HS, h4, ho, hs, hd1, hd9⟩ := P
  show (∃ S' V' M', pX5_readOneF rc ro S V V2 (nI d) = some (nI 1, S', V') ∧ _) ∨ (∃ S' V' M', pX5_readOneF rc ro S V V2 (nI d) = some (nI 0, S', V') ∧ _)
  have gen : pX5_readOneF rc ro S V V2 (nI d) = pX5_readOneF_j25 rc ro S V V2 (nI d) → ∀ a b l, pX11_operand M = pX11_operand_j38 M a b l → (o = 20 ∨ ¬ d ≤ 8) → (∃ S' V' M', pX5_readOneF rc ro S V V2 (nI d) = some (nI 0, S', V') ∧ FA1 tb M S' V' M' o) := fun e a b l e' hb => by
    obtain ⟨V', M', b1, b2, b3, b4⟩ := p_bad hP (k := 4) (by omega)
    refine ⟨S, V', M', e.trans (c_j25b h4 ho hd9 hb b1), ⟨b3, hA, ⟨s, by omega, HS.1⟩, b4.sf⟩, 1, by omega, fun n => l48_opF h44 (e'.trans (j38_bad h41 h43 ho hd9 hb b2 a b l))⟩
  -- the states behind the first word
  have go : AC V M z → ∃ V1 R, pX8_advance V = some V1 ∧ pX11_next (sI M 41 (nI (o + 1))) = some R ∧ RZ tb z lim V1 R f s (o + 1) t d 0 ∧ SF M R ∧ oA R 39 = oA M 39 := fun ac => by
    obtain ⟨V1, R, x1, x2, x3, x4⟩ := p_adv (hP.set 41 (nI (o + 1)) (by omega)) (ac.of (by rw [oI_sI, if_neg (by omega)]))
    have tf := x4.gf.tf
    refine ⟨V1, R, x1, x2, ⟨x3, x4.gf.cm (hM.gf (by rw [oI_sI, if_neg (by omega)]) rfl), ?_, ?_, ?_, ?_⟩, ((SF.refl M).i 41 _ (by omega)).trans tf.1, tf.2.2.2.2.2⟩
    · rw [tf.2.1, oI_sI, if_pos rfl]
    · rw [tf.2.2.1, oI_sI, if_neg (by omega)]; exact h42
    · rw [tf.2.2.2.1, oI_sI, if_neg (by omega)]; exact h43
    · rw [tf.2.2.2.2.1, oI_sI, if_neg (by omega)]; exact h44
  have A1 : AW (sI S 4 (nI (o + 1))) := hA
  have S1 : CS (sI S 4 (nI (o + 1))) f s := ⟨by rw [oI_sI, if_neg (by omega)]; exact HS.1, HS.2⟩
  have o1 : oI (sI S 4 (nI (o + 1))) 4 = nI (o + 1) := by rw [oI_sI, if_pos rfl]
  by_cases hb : o = 20 ∨ ¬ d ≤ 8
  · rcases tk_one hP with ⟨e40, n8, ac⟩ | ⟨n40, ac, hw⟩ | ⟨n40, n13, n⟩
    · exact Or.inr (gen (c_one1 (Or.inl e40) _) _ _ _ (op_40 hP e40) hb)
    · rcases hw with hw | ⟨c, hc, hw⟩
      · exact Or.inr (gen (c_one1 (Or.inr ⟨n40, Or.inl hw⟩) _) _ _ _ (op_13 hP n40 hw) hb)
      · exact Or.inr (gen (c_one1 (Or.inr ⟨n40, Or.inr ⟨c, hc, hw⟩⟩) _) _ _ _ (op_L hP n40 hc hw) hb)
    · obtain ⟨V', M', b1, b2, b3, b4⟩ := p_bad hP (k := 1) (by omega)
      exact Or.inr ⟨S, V', M', c_one0 (tk_ok hP) n40 n13 n b1 _, ⟨b3, hA, ⟨s, by omega, HS.1⟩, b4.sf⟩, 1, by omega, fun n' => l48_opF h44 (op_bad1 hP n40 n13 n b2)⟩
  · have ho' : o < 20 := by omega
    have hd' : d ≤ 8 := by omega
    rcases tk_one hP with ⟨e40, n8, ac⟩ | ⟨n40, ac, hw⟩ | ⟨n40, n13, n⟩
    · -- an open bracket
      obtain ⟨V1, R, x1, x2, HR, SR1, e39⟩ := go ac
      have eop := (op_40 hP e40).trans (j38_psh h41 h43 ho' hd' (by omega) x2 HR.2.2.2.1 HR.2.2.2.2.1 (Or.inl ⟨rfl, rfl, rfl⟩) (-nI 1))
      obtain ⟨HP, SP1, sb, st⟩ := psh_f HR 23
      have SM := SR1.trans SP1
      have ecl : pX5_readOneF rc ro S V V2 (nI d) = _ := (c_one1 (Or.inl e40) _).trans (c_j25 h4 ho' hd' (Or.inl ⟨e40, rfl⟩))
      rw [ecl]
      unfold pX5_readOneF_j70
      rcases HC hd' (sI S 4 (nI (o + 1))) V1 (psh R t d 23) f s (o + 1) (t + 1) ⟨HP, hX.sf SM, A1, S1, o1, by omega, by omega, by omega, by omega⟩ (by omega) (Or.inr (by rw [Nat.add_sub_cancel]; exact st)) with ⟨S', V', M', y1, f', s', o', M1, M2, q, y2, y3, y4, y5, y6, y7, y8, y9, y10, y11, y12, y13, y14, y15, y16, y17⟩ | ⟨S', V', M', y1, ⟨y2, y3, y4, y5⟩, q, y6, y7⟩
      · have h12 := twF y7 (i := 12) (by omega) y9
        have h11 := twF y7 (i := 11) (by omega) y10
        have lt1 := y17.1
        have lt2 := y17.2.1
        by_cases e41 : oI V' 4 = nI 41
        · have ac2 : AC V' M2 z := tk_acS y14.1 (by omega) e41
          obtain ⟨V3, R3, w1, w2, w3, w4⟩ := p_adv ((y14.1.set 42 (nI t) (by omega)).set 43 (nI d) (by omega)) (ac2.of (by rw [oI_sI, if_neg (by omega), oI_sI, if_neg (by omega)]))
          have sg := tsT y14.1 (c := 41) (by omega) e41
          have tf := w4.gf.tf
          have be : pX11_behind M' = some (nI 1, R3) := by
            unfold pX11_behind
            rw [y2, e_bd, lw_12, h12, e_bd, if_pos l_0.symm, lw_11, h11, e_bd, if_pos l_0.symm, l_22, y3, e_bd, l_41, sg, e_bd, if_neg n1z]
            simp (disch := omega) only [l_0, l_1, l_2, l_3, l_4, l_5, l_6, l_7, l_8, l_9, l_10, l_11, l_12, l_13, l_14, l_15, l_16, l_17, l_18, l_19, l_20, l_21, l_22, l_23, l_24, l_25, l_26, l_27, l_28, l_29, l_30, l_31, l_32, l_33, l_34, l_35, l_36, l_40, l_41, l_48, l_56, l_57, l_59, l_60, l_61, l_62, l_63, l_79, l_81, l_88, l_93, l_97, l_99, l_105, l_117, l_121, l_122, l_125, l_127, l_131, l_179, l_185, l_193, l_197, l_200, l_201, l_210, l_255, l_390, l_400, l_616, l_900, l_940, l_999, l_1000, l_1024, e_ltT, e_ltF, e_leT, e_leF, e_eqT, e_eqF, e_cl, e_in, e_gd, e_bd, e_ne, e_en, e_nlt, e_ltn, e_len, e_nle, e_nn, e_z0, e_z1, nI_add, pk_mul, e_sub, Nf_app, e_refl, e_reflN, reduceIte, ite_true_, ite_false_, oI_sI, oI_sL, oI_sW, oI_sA, oI_sJ, oI_sX, oL_sI, oL_sL, oL_sW, oL_sA, oL_sJ, oL_sX, oW_sI, oW_sL, oW_sW, oW_sA, oW_sJ, oW_sX, oA_sI, oA_sL, oA_sW, oA_sA, oA_sJ, oA_sX, oJ_sI, oJ_sL, oJ_sW, oJ_sA, oJ_sJ, oJ_sX, oX_sI, oX_sL, oX_sW, oX_sA, oX_sJ, oX_sX, Nat.reduceEqDiff, n10, n01, y14.2.2.2.1, y14.2.2.2.2.1, Nat.add_sub_cancel, w2]
          have n0 : ¬ oI M' 11 = nI 0 := by
            rw [tk_stop y6, e41]
            exact fun x => by have := (nI_eq (by omega) (by omega)).mp x; omega
          refine Or.inl ⟨S', V3, R3, ?_, f', s', o', R3, 0, q + 2, by omega, fun n => rfl, by omega, fun n => ?_, w3, ?_, y11, y12, y13, ⟨w3, w4.gf.cm (y14.2.1.gf (by rw [oI_sI, if_neg (by omega), oI_sI, if_neg (by omega)]) rfl), ?_, ?_, ?_, ?_⟩, ((SM.trans y15).i 42 _ (by omega)).i 43 _ (by omega) |>.trans tf.1, fun i hi => ?_, y17.wide⟩
          · unfold pX8_takeSign
            simp (disch := omega) only [l_0, l_1, l_2, l_3, l_4, l_5, l_6, l_7, l_8, l_9, l_10, l_11, l_12, l_13, l_14, l_15, l_16, l_17, l_18, l_19, l_20, l_21, l_22, l_23, l_24, l_25, l_26, l_27, l_28, l_29, l_30, l_31, l_32, l_33, l_34, l_35, l_36, l_40, l_41, l_48, l_56, l_57, l_59, l_60, l_61, l_62, l_63, l_79, l_81, l_88, l_93, l_97, l_99, l_105, l_117, l_121, l_122, l_125, l_127, l_131, l_179, l_185, l_193, l_197, l_200, l_201, l_210, l_255, l_390, l_400, l_616, l_900, l_940, l_999, l_1000, l_1024, e_ltT, e_ltF, e_leT, e_leF, e_eqT, e_eqF, e_cl, e_in, e_gd, e_bd, e_ne, e_en, e_nlt, e_ltn, e_len, e_nle, e_nn, e_z0, e_z1, nI_add, pk_mul, e_sub, Nf_app, e_refl, e_reflN, reduceIte, ite_true_, ite_false_, x1, y1, e41, w1]
          · rw [show n + (q + 2) = (n + 1 + q) + 1 by omega, l48_opT h44 eop, y5, l48_beT y8 n0 be]
          · rw [tf.2.2.2.2.1]; simp (disch := omega) only [l_0, l_1, l_2, l_3, l_4, l_5, l_6, l_7, l_8, l_9, l_10, l_11, l_12, l_13, l_14, l_15, l_16, l_17, l_18, l_19, l_20, l_21, l_22, l_23, l_24, l_25, l_26, l_27, l_28, l_29, l_30, l_31, l_32, l_33, l_34, l_35, l_36, l_40, l_41, l_48, l_56, l_57, l_59, l_60, l_61, l_62, l_63, l_79, l_81, l_88, l_93, l_97, l_99, l_105, l_117, l_121, l_122, l_125, l_127, l_131, l_179, l_185, l_193, l_197, l_200, l_201, l_210, l_255, l_390, l_400, l_616, l_900, l_940, l_999, l_1000, l_1024, e_ltT, e_ltF, e_leT, e_leF, e_eqT, e_eqF, e_cl, e_in, e_gd, e_bd, e_ne, e_en, e_nlt, e_ltn, e_len, e_nle, e_nn, e_z0, e_z1, nI_add, pk_mul, e_sub, Nf_app, e_refl, e_reflN, reduceIte, ite_true_, ite_false_, oI_sI, oI_sL, oI_sW, oI_sA, oI_sJ, oI_sX, oL_sI, oL_sL, oL_sW, oL_sA, oL_sJ, oL_sX, oW_sI, oW_sL, oW_sW, oW_sA, oW_sJ, oW_sX, oA_sI, oA_sL, oA_sW, oA_sA, oA_sJ, oA_sX, oJ_sI, oJ_sL, oJ_sW, oJ_sA, oJ_sJ, oJ_sX, oX_sI, oX_sL, oX_sW, oX_sA, oX_sJ, oX_sX, Nat.reduceEqDiff, n10, n01, y14.2.2.2.2.2]
          · rw [tf.2.1]; simp (disch := omega) only [l_0, l_1, l_2, l_3, l_4, l_5, l_6, l_7, l_8, l_9, l_10, l_11, l_12, l_13, l_14, l_15, l_16, l_17, l_18, l_19, l_20, l_21, l_22, l_23, l_24, l_25, l_26, l_27, l_28, l_29, l_30, l_31, l_32, l_33, l_34, l_35, l_36, l_40, l_41, l_48, l_56, l_57, l_59, l_60, l_61, l_62, l_63, l_79, l_81, l_88, l_93, l_97, l_99, l_105, l_117, l_121, l_122, l_125, l_127, l_131, l_179, l_185, l_193, l_197, l_200, l_201, l_210, l_255, l_390, l_400, l_616, l_900, l_940, l_999, l_1000, l_1024, e_ltT, e_ltF, e_leT, e_leF, e_eqT, e_eqF, e_cl, e_in, e_gd, e_bd, e_ne, e_en, e_nlt, e_ltn, e_len, e_nle, e_nn, e_z0, e_z1, nI_add, pk_mul, e_sub, Nf_app, e_refl, e_reflN, reduceIte, ite_true_, ite_false_, oI_sI, oI_sL, oI_sW, oI_sA, oI_sJ, oI_sX, oL_sI, oL_sL, oL_sW, oL_sA, oL_sJ, oL_sX, oW_sI, oW_sL, oW_sW, oW_sA, oW_sJ, oW_sX, oA_sI, oA_sL, oA_sW, oA_sA, oA_sJ, oA_sX, oJ_sI, oJ_sL, oJ_sW, oJ_sA, oJ_sJ, oJ_sX, oX_sI, oX_sL, oX_sW, oX_sA, oX_sJ, oX_sX, Nat.reduceEqDiff, n10, n01, y14.2.2.1]
          · rw [tf.2.2.1]; simp (disch := omega) only [l_0, l_1, l_2, l_3, l_4, l_5, l_6, l_7, l_8, l_9, l_10, l_11, l_12, l_13, l_14, l_15, l_16, l_17, l_18, l_19, l_20, l_21, l_22, l_23, l_24, l_25, l_26, l_27, l_28, l_29, l_30, l_31, l_32, l_33, l_34, l_35, l_36, l_40, l_41, l_48, l_56, l_57, l_59, l_60, l_61, l_62, l_63, l_79, l_81, l_88, l_93, l_97, l_99, l_105, l_117, l_121, l_122, l_125, l_127, l_131, l_179, l_185, l_193, l_197, l_200, l_201, l_210, l_255, l_390, l_400, l_616, l_900, l_940, l_999, l_1000, l_1024, e_ltT, e_ltF, e_leT, e_leF, e_eqT, e_eqF, e_cl, e_in, e_gd, e_bd, e_ne, e_en, e_nlt, e_ltn, e_len, e_nle, e_nn, e_z0, e_z1, nI_add, pk_mul, e_sub, Nf_app, e_refl, e_reflN, reduceIte, ite_true_, ite_false_, oI_sI, oI_sL, oI_sW, oI_sA, oI_sJ, oI_sX, oL_sI, oL_sL, oL_sW, oL_sA, oL_sJ, oL_sX, oW_sI, oW_sL, oW_sW, oW_sA, oW_sJ, oW_sX, oA_sI, oA_sL, oA_sW, oA_sA, oA_sJ, oA_sX, oJ_sI, oJ_sL, oJ_sW, oJ_sA, oJ_sJ, oJ_sX, oX_sI, oX_sL, oX_sW, oX_sA, oX_sJ, oX_sX, Nat.reduceEqDiff, n10, n01, h42]
          · rw [tf.2.2.2.1]; simp (disch := omega) only [l_0, l_1, l_2, l_3, l_4, l_5, l_6, l_7, l_8, l_9, l_10, l_11, l_12, l_13, l_14, l_15, l_16, l_17, l_18, l_19, l_20, l_21, l_22, l_23, l_24, l_25, l_26, l_27, l_28, l_29, l_30, l_31, l_32, l_33, l_34, l_35, l_36, l_40, l_41, l_48, l_56, l_57, l_59, l_60, l_61, l_62, l_63, l_79, l_81, l_88, l_93, l_97, l_99, l_105, l_117, l_121, l_122, l_125, l_127, l_131, l_179, l_185, l_193, l_197, l_200, l_201, l_210, l_255, l_390, l_400, l_616, l_900, l_940, l_999, l_1000, l_1024, e_ltT, e_ltF, e_leT, e_leF, e_eqT, e_eqF, e_cl, e_in, e_gd, e_bd, e_ne, e_en, e_nlt, e_ltn, e_len, e_nle, e_nn, e_z0, e_z1, nI_add, pk_mul, e_sub, Nf_app, e_refl, e_reflN, reduceIte, ite_true_, ite_false_, oI_sI, oI_sL, oI_sW, oI_sA, oI_sJ, oI_sX, oL_sI, oL_sL, oL_sW, oL_sA, oL_sJ, oL_sX, oW_sI, oW_sL, oW_sW, oW_sA, oW_sJ, oW_sX, oA_sI, oA_sL, oA_sW, oA_sA, oA_sJ, oA_sX, oJ_sI, oJ_sL, oJ_sW, oJ_sA, oJ_sJ, oJ_sX, oX_sI, oX_sL, oX_sW, oX_sA, oX_sJ, oX_sX, Nat.reduceEqDiff, n10, n01, h42]
          · rw [tf.2.2.2.2.1]; simp (disch := omega) only [l_0, l_1, l_2, l_3, l_4, l_5, l_6, l_7, l_8, l_9, l_10, l_11, l_12, l_13, l_14, l_15, l_16, l_17, l_18, l_19, l_20, l_21, l_22, l_23, l_24, l_25, l_26, l_27, l_28, l_29, l_30, l_31, l_32, l_33, l_34, l_35, l_36, l_40, l_41, l_48, l_56, l_57, l_59, l_60, l_61, l_62, l_63, l_79, l_81, l_88, l_93, l_97, l_99, l_105, l_117, l_121, l_122, l_125, l_127, l_131, l_179, l_185, l_193, l_197, l_200, l_201, l_210, l_255, l_390, l_400, l_616, l_900, l_940, l_999, l_1000, l_1024, e_ltT, e_ltF, e_leT, e_leF, e_eqT, e_eqF, e_cl, e_in, e_gd, e_bd, e_ne, e_en, e_nlt, e_ltn, e_len, e_nle, e_nn, e_z0, e_z1, nI_add, pk_mul, e_sub, Nf_app, e_refl, e_reflN, reduceIte, ite_true_, ite_false_, oI_sI, oI_sL, oI_sW, oI_sA, oI_sJ, oI_sX, oL_sI, oL_sL, oL_sW, oL_sA, oL_sJ, oL_sX, oW_sI, oW_sL, oW_sW, oW_sA, oW_sJ, oW_sX, oA_sI, oA_sL, oA_sW, oA_sA, oA_sJ, oA_sX, oJ_sI, oJ_sL, oJ_sW, oJ_sA, oJ_sJ, oJ_sX, oX_sI, oX_sL, oX_sW, oX_sA, oX_sJ, oX_sX, Nat.reduceEqDiff, n10, n01, y14.2.2.2.2.2]
          · rw [tf.2.2.2.2.2, oA_sI, oA_sI, y16 i (by omega), sb i hi, e39]
        · obtain ⟨V3, R3, w1, w2, w3, w4⟩ := p_bad y14.1 (k := 1) (by omega)
          have sg := tsF y14.1 (c := 41) (by omega) e41
          refine Or.inr ⟨S', V3, R3, ?_, ⟨w3, y11, ⟨s', by have := y17.2.2.1; omega, y12.1⟩, (SM.trans y15).trans w4.sf⟩, q + 2, by omega, fun n => ?_⟩
          · unfold pX8_takeSign
            have e41' : (oI V' 4 = nI 41) = False := eq_false e41
            simp (disch := omega) only [l_0, l_1, l_2, l_3, l_4, l_5, l_6, l_7, l_8, l_9, l_10, l_11, l_12, l_13, l_14, l_15, l_16, l_17, l_18, l_19, l_20, l_21, l_22, l_23, l_24, l_25, l_26, l_27, l_28, l_29, l_30, l_31, l_32, l_33, l_34, l_35, l_36, l_40, l_41, l_48, l_56, l_57, l_59, l_60, l_61, l_62, l_63, l_79, l_81, l_88, l_93, l_97, l_99, l_105, l_117, l_121, l_122, l_125, l_127, l_131, l_179, l_185, l_193, l_197, l_200, l_201, l_210, l_255, l_390, l_400, l_616, l_900, l_940, l_999, l_1000, l_1024, e_ltT, e_ltF, e_leT, e_leF, e_eqT, e_eqF, e_cl, e_in, e_gd, e_bd, e_ne, e_en, e_nlt, e_ltn, e_len, e_nle, e_nn, e_z0, e_z1, nI_add, pk_mul, e_sub, Nf_app, e_refl, e_reflN, reduceIte, ite_true_, ite_false_, x1, y1, e41', w1]
          · rw [show n + (q + 2) = (n + 1 + q) + 1 by omega, l48_opT h44 eop, y5]
            by_cases c11 : oI M' 11 = nI 0
            · exact l48_end y8 c11 y2 y3 y14.2.2.2.1 (by omega) w2
            · refine l48_beF y8 c11 ?_
              unfold pX11_behind
              rw [y2, e_bd, lw_12, h12, e_bd, if_pos l_0.symm, lw_11, h11, e_bd, if_pos l_0.symm, l_22, y3, e_bd, l_41, sg, e_bd, if_pos l_0.symm]
              unfold pX11_behind_j114
              simp (disch := omega) only [l_0, l_1, l_2, l_3, l_4, l_5, l_6, l_7, l_8, l_9, l_10, l_11, l_12, l_13, l_14, l_15, l_16, l_17, l_18, l_19, l_20, l_21, l_22, l_23, l_24, l_25, l_26, l_27, l_28, l_29, l_30, l_31, l_32, l_33, l_34, l_35, l_36, l_40, l_41, l_48, l_56, l_57, l_59, l_60, l_61, l_62, l_63, l_79, l_81, l_88, l_93, l_97, l_99, l_105, l_117, l_121, l_122, l_125, l_127, l_131, l_179, l_185, l_193, l_197, l_200, l_201, l_210, l_255, l_390, l_400, l_616, l_900, l_940, l_999, l_1000, l_1024, e_ltT, e_ltF, e_leT, e_leF, e_eqT, e_eqF, e_cl, e_in, e_gd, e_bd, e_ne, e_en, e_nlt, e_ltn, e_len, e_nle, e_nn, e_z0, e_z1, nI_add, pk_mul, e_sub, Nf_app, e_refl, e_reflN, reduceIte, ite_true_, ite_false_, w2]
      · refine Or.inr ⟨S', V', M', ?_, ⟨y2, y3, y4, SM.trans y5⟩, q + 1, by omega, fun n => ?_⟩
        · simp (disch := omega) only [l_0, l_1, l_2, l_3, l_4, l_5, l_6, l_7, l_8, l_9, l_10, l_11, l_12, l_13, l_14, l_15, l_16, l_17, l_18, l_19, l_20, l_21, l_22, l_23, l_24, l_25, l_26, l_27, l_28, l_29, l_30, l_31, l_32, l_33, l_34, l_35, l_36, l_40, l_41, l_48, l_56, l_57, l_59, l_60, l_61, l_62, l_63, l_79, l_81, l_88, l_93, l_97, l_99, l_105, l_117, l_121, l_122, l_125, l_127, l_131, l_179, l_185, l_193, l_197, l_200, l_201, l_210, l_255, l_390, l_400, l_616, l_900, l_940, l_999, l_1000, l_1024, e_ltT, e_ltF, e_leT, e_leF, e_eqT, e_eqF, e_cl, e_in, e_gd, e_bd, e_ne, e_en, e_nlt, e_ltn, e_len, e_nle, e_nn, e_z0, e_z1, nI_add, pk_mul, e_sub, Nf_app, e_refl, e_reflN, reduceIte, ite_true_, ite_false_, x1, y1]
        · rw [show n + (q + 1) = (n + q) + 1 by omega, l48_opT h44 eop, y7]
    · obtain ⟨V1, R, x1, x2, HR, SR1, e39⟩ := go ac
      rcases hw with hw | ⟨c, hc, hw⟩
      · -- not
        have eop := (op_13 hP n40 hw).trans (j38_psh h41 h43 ho' hd' (by omega) x2 HR.2.2.2.1 HR.2.2.2.2.1 (Or.inr ⟨rfl, rfl, rfl⟩) (-nI 1))
        obtain ⟨HP, SP1, sb, st⟩ := psh_f HR 20
        have SM := SR1.trans SP1
        have ecl : pX5_readOneF rc ro S V V2 (nI d) = _ := (c_one1 (Or.inr ⟨n40, Or.inl hw⟩) _).trans (c_j25 h4 ho' hd' (Or.inr ⟨n40, rfl⟩))
        have ok := tk_ok hP
        rw [ecl]
        unfold pX5_readOneF_j70
        rcases HO hd' (sI S 4 (nI (o + 1))) V1 (psh R t d 20) f s (o + 1) (t + 1) ⟨HP, hX.sf SM, A1, S1, o1, by omega, by omega, by omega, by omega⟩ (by omega) with ⟨S', V', M', y1, f', s', o', M1, k, q, y2, y3, y4, y5, y6, y7, y8, y9, y10, y11, y12, y13, y14⟩ | ⟨S', V', M', y1, ⟨y2, y3, ⟨n', y4, y4'⟩, y5⟩, q, y6, y7⟩
        · have lt0 := y14.2.2.1
          have lt1 := y14.1
          have lt2 := y14.2.1
          obtain ⟨S'', w1, w2, w3, w4⟩ := c_emit y8 y9 (by omega) 20 0 0
          have w1 : pX5_addStep S' (some 13) (nI 0) (nI 0) = some S'' := w1
          obtain ⟨M3, v1, v2, v3, v4⟩ := nots_pop y11 (by omega) (by omega) (by omega) (by rw [y13 t (by omega)]; exact st)
          refine Or.inl ⟨S'', V', M', ?_, va_up f' s' (20, 0, 0), s' + 1, o', M3, k + 1, q + 1, by omega, fun n => ?_, by omega, fun n => ?_, y6, y7, w2, w4, w3.trans y10, v2, (SM.trans y12).trans v3, fun i hi => ?_, y14.not⟩
          · simp (disch := omega) only [l_0, l_1, l_2, l_3, l_4, l_5, l_6, l_7, l_8, l_9, l_10, l_11, l_12, l_13, l_14, l_15, l_16, l_17, l_18, l_19, l_20, l_21, l_22, l_23, l_24, l_25, l_26, l_27, l_28, l_29, l_30, l_31, l_32, l_33, l_34, l_35, l_36, l_40, l_41, l_48, l_56, l_57, l_59, l_60, l_61, l_62, l_63, l_79, l_81, l_88, l_93, l_97, l_99, l_105, l_117, l_121, l_122, l_125, l_127, l_131, l_179, l_185, l_193, l_197, l_200, l_201, l_210, l_255, l_390, l_400, l_616, l_900, l_940, l_999, l_1000, l_1024, e_ltT, e_ltF, e_leT, e_leF, e_eqT, e_eqF, e_cl, e_in, e_gd, e_bd, e_ne, e_en, e_nlt, e_ltn, e_len, e_nle, e_nn, e_z0, e_z1, nI_add, pk_mul, e_sub, Nf_app, e_refl, e_reflN, reduceIte, ite_true_, ite_false_, x1, hw, show wOk (some 13) = true from rfl, y1, w1]
          · rw [show n + (k + 1) = (n + 1) + k by omega, y3, v1]
          · rw [show n + (q + 1) = (n + q) + 1 by omega, l48_opT h44 eop, y5]
          · rw [v4, y13 i (by omega), sb i hi, e39]
        · obtain ⟨S'', w1, w2, w3, w4, _⟩ := c_step (w := 13) y3 y4' y4 (by omega) (nI 0) (nI 0)
          refine Or.inr ⟨S'', V', M', ?_, ⟨y2, w2, w4, SM.trans y5⟩, q + 1, by omega, fun n => ?_⟩
          · simp (disch := omega) only [l_0, l_1, l_2, l_3, l_4, l_5, l_6, l_7, l_8, l_9, l_10, l_11, l_12, l_13, l_14, l_15, l_16, l_17, l_18, l_19, l_20, l_21, l_22, l_23, l_24, l_25, l_26, l_27, l_28, l_29, l_30, l_31, l_32, l_33, l_34, l_35, l_36, l_40, l_41, l_48, l_56, l_57, l_59, l_60, l_61, l_62, l_63, l_79, l_81, l_88, l_93, l_97, l_99, l_105, l_117, l_121, l_122, l_125, l_127, l_131, l_179, l_185, l_193, l_197, l_200, l_201, l_210, l_255, l_390, l_400, l_616, l_900, l_940, l_999, l_1000, l_1024, e_ltT, e_ltF, e_leT, e_leF, e_eqT, e_eqF, e_cl, e_in, e_gd, e_bd, e_ne, e_en, e_nlt, e_ltn, e_len, e_nle, e_nn, e_z0, e_z1, nI_add, pk_mul, e_sub, Nf_app, e_refl, e_reflN, reduceIte, ite_true_, ite_false_, x1, hw, show wOk (some 13) = true from rfl, y1, w1]
          · rw [show n + (q + 1) = (n + q) + 1 by omega, l48_opT h44 eop, y7]
      · -- a leaf
        have ecl : pX5_readOneF rc ro S V V2 (nI d) = _ := (c_one1 (Or.inr ⟨n40, Or.inr ⟨c, hc, hw⟩⟩) _).trans (c_j25 h4 ho' hd' (Or.inr ⟨n40, rfl⟩))
        have ok := tk_ok hP
        have n13 : ¬ oW V 8 = some 13 := fun x => wmp_13 hc (Option.some.inj (hw.symm.trans x))
        have j70 : pX5_readOneF_j70 rc ro (sI S 4 (nI (o + 1))) V V2 (nI d) (nI 0) = (pX5_readPlain (sI S 4 (nI (o + 1))) V1 V2 (some (wmp c))).bind fun r13 => gd (z01 r13.1) (some (r13.1, r13.2.1, r13.2.2)) := by
          unfold pX5_readOneF_j70
          rw [x1, e_bd, if_pos l_0.symm, ok, e_gd, if_neg n13, hw]
        have eop : pX11_operand M = oT (sI R 44 (1 : Int32)) (nI c) := by
          rw [op_L hP n40 hc hw, ← l_0]
          refine j38_leaf M (nI c) ?_ ?_ ?_
          · rw [h41, l_20]; exact fun x => by have := (nI_eq (by omega) (by omega)).mp x; omega
          · rw [h43, l_8]; exact nI_le (by omega) (by omega)
          · rw [h41, l_1, nI_add]; exact x2
        rw [ecl, j70]
        rw [l_1] at eop
        have s44 : SF R (sI R 44 (nI 1)) := (SF.refl R).i 44 _ (by omega)
        rcases p_plain (HR.1.set 44 (nI 1) (by omega)) (hX.sf (SR1.trans s44)) hQ hq A1 S1 (HR.2.1.gf (by rw [oI_sI, if_neg (by omega)]) rfl) (by omega) hc with ⟨S', V', M', y1, y2, y3, y4, y5, y6, u, v, y7, y8, y9⟩ | ⟨S', V', M', y1, y2, y3, y4, y5, y6⟩
        · have e44 : oI M' 44 = nI 1 := by rw [y6.2.2.2.2.1, oI_sI, if_pos rfl]
          refine Or.inl ⟨S', V', M', ?_, va_up f s (c, u, v), s + 1, o + 1, M', 0, 1, by omega, fun n => rfl, by omega, fun n => l48_opT h44 (eop.trans y2), y3, e44, y4, y8, y5.trans o1, ⟨y3, y9, ?_, ?_, ?_, e44⟩, (SR1.trans s44).trans y6.1, fun i _ => ?_, GR.leaf hc ho' y7⟩
          · simp (disch := omega) only [l_0, l_1, l_2, l_3, l_4, l_5, l_6, l_7, l_8, l_9, l_10, l_11, l_12, l_13, l_14, l_15, l_16, l_17, l_18, l_19, l_20, l_21, l_22, l_23, l_24, l_25, l_26, l_27, l_28, l_29, l_30, l_31, l_32, l_33, l_34, l_35, l_36, l_40, l_41, l_48, l_56, l_57, l_59, l_60, l_61, l_62, l_63, l_79, l_81, l_88, l_93, l_97, l_99, l_105, l_117, l_121, l_122, l_125, l_127, l_131, l_179, l_185, l_193, l_197, l_200, l_201, l_210, l_255, l_390, l_400, l_616, l_900, l_940, l_999, l_1000, l_1024, e_ltT, e_ltF, e_leT, e_leF, e_eqT, e_eqF, e_cl, e_in, e_gd, e_bd, e_ne, e_en, e_nlt, e_ltn, e_len, e_nle, e_nn, e_z0, e_z1, nI_add, pk_mul, e_sub, Nf_app, e_refl, e_reflN, reduceIte, ite_true_, ite_false_, y1]
          · rw [y6.2.1, oI_sI, if_neg (by omega)]; exact HR.2.2.1
          · rw [y6.2.2.1, oI_sI, if_neg (by omega)]; exact HR.2.2.2.1
          · rw [y6.2.2.2.1, oI_sI, if_neg (by omega)]; exact HR.2.2.2.2.1
          · rw [y6.2.2.2.2.2, oA_sI, e39]
        · refine Or.inr ⟨S', V', M', ?_, ⟨y3, y4, y5, (SR1.trans s44).trans y6⟩, 1, by omega, fun n => l48_opF h44 (eop.trans y2)⟩
          simp (disch := omega) only [l_0, l_1, l_2, l_3, l_4, l_5, l_6, l_7, l_8, l_9, l_10, l_11, l_12, l_13, l_14, l_15, l_16, l_17, l_18, l_19, l_20, l_21, l_22, l_23, l_24, l_25, l_26, l_27, l_28, l_29, l_30, l_31, l_32, l_33, l_34, l_35, l_36, l_40, l_41, l_48, l_56, l_57, l_59, l_60, l_61, l_62, l_63, l_79, l_81, l_88, l_93, l_97, l_99, l_105, l_117, l_121, l_122, l_125, l_127, l_131, l_179, l_185, l_193, l_197, l_200, l_201, l_210, l_255, l_390, l_400, l_616, l_900, l_940, l_999, l_1000, l_1024, e_ltT, e_ltF, e_leT, e_leF, e_eqT, e_eqF, e_cl, e_in, e_gd, e_bd, e_ne, e_en, e_nlt, e_ltn, e_len, e_nle, e_nn, e_z0, e_z1, nI_add, pk_mul, e_sub, Nf_app, e_refl, e_reflN, reduceIte, ite_true_, ite_false_, y1]
    · obtain ⟨V', M', b1, b2, b3, b4⟩ := p_bad hP (k := 1) (by omega)
      exact Or.inr ⟨S, V', M', c_one0 (tk_ok hP) n40 n13 n b1 _, ⟨b3, hA, ⟨s, by omega, HS.1⟩, b4.sf⟩, 1, by omega, fun n' => l48_opF h44 (op_bad1 hP n40 n13 n b2)⟩
end
