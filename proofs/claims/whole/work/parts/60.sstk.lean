/-! the reading of a sentence: the reference's stack, and how codes grow -/
theorem m12 : ¬ nI 0 = nI 1 := by decide
section
variable {tb : Nat → Nat} {V M : Ob} {z lim r o t d e : Nat} {f : Nat → Cd}
def RZ (tb : Nat → Nat) (z lim : Nat) (V M : Ob) (f : Nat → Cd) (r o t d e : Nat) : Prop := PS V M tb z lim ∧ CM M f r ∧ oI M 41 = nI o ∧ oI M 42 = nI t ∧ oI M 43 = nI d ∧ oI M 44 = nI e
theorem RZ.cong {f' : Nat → Cd} (H : RZ tb z lim V M f r o t d e) (h : ∀ i, i < r → f' i = f i) : RZ tb z lim V M f' r o t d e := ⟨H.1, H.2.1.cong h, H.2.2⟩
theorem RZ.tf {V' M' : Ob} (H : RZ tb z lim V M f r o t d e) (p : PS V' M' tb z lim) (c : CM M' f r) (a : TF M M') : RZ tb z lim V' M' f r o t d e := ⟨p, c, a.2.1.trans H.2.2.1, a.2.2.1.trans H.2.2.2.1, a.2.2.2.1.trans H.2.2.2.2.1, a.2.2.2.2.1.trans H.2.2.2.2.2⟩
theorem nots_pop (H : RZ tb z lim V M f r o (t + 1) (d + 1) e) (ht : t < 45) (hr : r < 40) (hd : d < 1000) (h20 : oA M 39 t = nI 20) : ∃ M1, (∀ n, pX11_nots_l0 (n + 1) M = pX11_nots_l0 n M1) ∧ RZ tb z lim V M1 (va_up f r (20, 0, 0)) (r + 1) o t d e ∧ SF M M1 ∧ oA M1 39 = oA M 39 := by
  obtain ⟨h1, h2, h3, h4, h5, h6⟩ := H
  have hc : CM (sI (sI M 42 (nI t)) 43 (nI d)) f r := h2.gf (by rw [oI_sI, if_neg (by omega), oI_sI, if_neg (by omega)]) rfl
  obtain ⟨z1, z2⟩ := r_emit hc hr 20 0 0
  refine ⟨_, fun n => ?_, ⟨((h1.set 42 _ (by omega)).set 43 _ (by omega)).cd r 20 0 0, z2, ?_, ?_, ?_, ?_⟩, (((SF.refl M).i 42 _ (by omega)).i 43 _ (by omega)).cd r 20 0 0, ?_⟩
  · rw [pX11_nots_l0]
    simp (disch := omega) only [l_0, l_1, l_2, l_3, l_4, l_5, l_6, l_7, l_8, l_9, l_10, l_11, l_12, l_13, l_14, l_15, l_16, l_17, l_18, l_19, l_20, l_21, l_22, l_23, l_24, l_25, l_26, l_27, l_28, l_29, l_30, l_31, l_32, l_33, l_34, l_35, l_36, l_40, l_41, l_48, l_56, l_57, l_59, l_60, l_61, l_62, l_63, l_79, l_81, l_88, l_93, l_97, l_99, l_105, l_117, l_121, l_122, l_125, l_127, l_131, l_179, l_185, l_193, l_197, l_200, l_201, l_210, l_255, l_390, l_400, l_616, l_900, l_940, l_999, l_1000, l_1024, e_ltT, e_ltF, e_leT, e_leF, e_eqT, e_eqF, e_cl, e_in, e_gd, e_bd, e_ne, e_en, e_nlt, e_ltn, e_len, e_nle, e_nn, e_z0, e_z1, nI_add, pk_mul, e_sub, Nf_app, e_refl, e_reflN, reduceIte, ite_true_, ite_false_, oI_sI, oI_sL, oI_sW, oI_sA, oI_sJ, oI_sX, oL_sI, oL_sL, oL_sW, oL_sA, oL_sJ, oL_sX, oW_sI, oW_sL, oW_sW, oW_sA, oW_sJ, oW_sX, oA_sI, oA_sL, oA_sW, oA_sA, oA_sJ, oA_sX, oJ_sI, oJ_sL, oJ_sW, oJ_sA, oJ_sJ, oJ_sX, oX_sI, oX_sL, oX_sW, oX_sA, oX_sJ, oX_sX, Nat.reduceEqDiff, n10, n01, h4, h5, h20, z1, Nat.add_sub_cancel]
  · unfold cdM; simp (disch := omega) only [l_0, l_1, l_2, l_3, l_4, l_5, l_6, l_7, l_8, l_9, l_10, l_11, l_12, l_13, l_14, l_15, l_16, l_17, l_18, l_19, l_20, l_21, l_22, l_23, l_24, l_25, l_26, l_27, l_28, l_29, l_30, l_31, l_32, l_33, l_34, l_35, l_36, l_40, l_41, l_48, l_56, l_57, l_59, l_60, l_61, l_62, l_63, l_79, l_81, l_88, l_93, l_97, l_99, l_105, l_117, l_121, l_122, l_125, l_127, l_131, l_179, l_185, l_193, l_197, l_200, l_201, l_210, l_255, l_390, l_400, l_616, l_900, l_940, l_999, l_1000, l_1024, e_ltT, e_ltF, e_leT, e_leF, e_eqT, e_eqF, e_cl, e_in, e_gd, e_bd, e_ne, e_en, e_nlt, e_ltn, e_len, e_nle, e_nn, e_z0, e_z1, nI_add, pk_mul, e_sub, Nf_app, e_refl, e_reflN, reduceIte, ite_true_, ite_false_, oI_sI, oI_sL, oI_sW, oI_sA, oI_sJ, oI_sX, oL_sI, oL_sL, oL_sW, oL_sA, oL_sJ, oL_sX, oW_sI, oW_sL, oW_sW, oW_sA, oW_sJ, oW_sX, oA_sI, oA_sL, oA_sW, oA_sA, oA_sJ, oA_sX, oJ_sI, oJ_sL, oJ_sW, oJ_sA, oJ_sJ, oJ_sX, oX_sI, oX_sL, oX_sW, oX_sA, oX_sJ, oX_sX, Nat.reduceEqDiff, n10, n01, h3]
  · unfold cdM; simp (disch := omega) only [l_0, l_1, l_2, l_3, l_4, l_5, l_6, l_7, l_8, l_9, l_10, l_11, l_12, l_13, l_14, l_15, l_16, l_17, l_18, l_19, l_20, l_21, l_22, l_23, l_24, l_25, l_26, l_27, l_28, l_29, l_30, l_31, l_32, l_33, l_34, l_35, l_36, l_40, l_41, l_48, l_56, l_57, l_59, l_60, l_61, l_62, l_63, l_79, l_81, l_88, l_93, l_97, l_99, l_105, l_117, l_121, l_122, l_125, l_127, l_131, l_179, l_185, l_193, l_197, l_200, l_201, l_210, l_255, l_390, l_400, l_616, l_900, l_940, l_999, l_1000, l_1024, e_ltT, e_ltF, e_leT, e_leF, e_eqT, e_eqF, e_cl, e_in, e_gd, e_bd, e_ne, e_en, e_nlt, e_ltn, e_len, e_nle, e_nn, e_z0, e_z1, nI_add, pk_mul, e_sub, Nf_app, e_refl, e_reflN, reduceIte, ite_true_, ite_false_, oI_sI, oI_sL, oI_sW, oI_sA, oI_sJ, oI_sX, oL_sI, oL_sL, oL_sW, oL_sA, oL_sJ, oL_sX, oW_sI, oW_sL, oW_sW, oW_sA, oW_sJ, oW_sX, oA_sI, oA_sL, oA_sW, oA_sA, oA_sJ, oA_sX, oJ_sI, oJ_sL, oJ_sW, oJ_sA, oJ_sJ, oJ_sX, oX_sI, oX_sL, oX_sW, oX_sA, oX_sJ, oX_sX, Nat.reduceEqDiff, n10, n01, h4]
  · unfold cdM; simp (disch := omega) only [l_0, l_1, l_2, l_3, l_4, l_5, l_6, l_7, l_8, l_9, l_10, l_11, l_12, l_13, l_14, l_15, l_16, l_17, l_18, l_19, l_20, l_21, l_22, l_23, l_24, l_25, l_26, l_27, l_28, l_29, l_30, l_31, l_32, l_33, l_34, l_35, l_36, l_40, l_41, l_48, l_56, l_57, l_59, l_60, l_61, l_62, l_63, l_79, l_81, l_88, l_93, l_97, l_99, l_105, l_117, l_121, l_122, l_125, l_127, l_131, l_179, l_185, l_193, l_197, l_200, l_201, l_210, l_255, l_390, l_400, l_616, l_900, l_940, l_999, l_1000, l_1024, e_ltT, e_ltF, e_leT, e_leF, e_eqT, e_eqF, e_cl, e_in, e_gd, e_bd, e_ne, e_en, e_nlt, e_ltn, e_len, e_nle, e_nn, e_z0, e_z1, nI_add, pk_mul, e_sub, Nf_app, e_refl, e_reflN, reduceIte, ite_true_, ite_false_, oI_sI, oI_sL, oI_sW, oI_sA, oI_sJ, oI_sX, oL_sI, oL_sL, oL_sW, oL_sA, oL_sJ, oL_sX, oW_sI, oW_sL, oW_sW, oW_sA, oW_sJ, oW_sX, oA_sI, oA_sL, oA_sW, oA_sA, oA_sJ, oA_sX, oJ_sI, oJ_sL, oJ_sW, oJ_sA, oJ_sJ, oJ_sX, oX_sI, oX_sL, oX_sW, oX_sA, oX_sJ, oX_sX, Nat.reduceEqDiff, n10, n01, h5]
  · unfold cdM; simp (disch := omega) only [l_0, l_1, l_2, l_3, l_4, l_5, l_6, l_7, l_8, l_9, l_10, l_11, l_12, l_13, l_14, l_15, l_16, l_17, l_18, l_19, l_20, l_21, l_22, l_23, l_24, l_25, l_26, l_27, l_28, l_29, l_30, l_31, l_32, l_33, l_34, l_35, l_36, l_40, l_41, l_48, l_56, l_57, l_59, l_60, l_61, l_62, l_63, l_79, l_81, l_88, l_93, l_97, l_99, l_105, l_117, l_121, l_122, l_125, l_127, l_131, l_179, l_185, l_193, l_197, l_200, l_201, l_210, l_255, l_390, l_400, l_616, l_900, l_940, l_999, l_1000, l_1024, e_ltT, e_ltF, e_leT, e_leF, e_eqT, e_eqF, e_cl, e_in, e_gd, e_bd, e_ne, e_en, e_nlt, e_ltn, e_len, e_nle, e_nn, e_z0, e_z1, nI_add, pk_mul, e_sub, Nf_app, e_refl, e_reflN, reduceIte, ite_true_, ite_false_, oI_sI, oI_sL, oI_sW, oI_sA, oI_sJ, oI_sX, oL_sI, oL_sL, oL_sW, oL_sA, oL_sJ, oL_sX, oW_sI, oW_sL, oW_sW, oW_sA, oW_sJ, oW_sX, oA_sI, oA_sL, oA_sW, oA_sA, oA_sJ, oA_sX, oJ_sI, oJ_sL, oJ_sW, oJ_sA, oJ_sJ, oJ_sX, oX_sI, oX_sL, oX_sW, oX_sA, oX_sJ, oX_sX, Nat.reduceEqDiff, n10, n01, h6]
  · unfold cdM; simp (disch := omega) only [l_0, l_1, l_2, l_3, l_4, l_5, l_6, l_7, l_8, l_9, l_10, l_11, l_12, l_13, l_14, l_15, l_16, l_17, l_18, l_19, l_20, l_21, l_22, l_23, l_24, l_25, l_26, l_27, l_28, l_29, l_30, l_31, l_32, l_33, l_34, l_35, l_36, l_40, l_41, l_48, l_56, l_57, l_59, l_60, l_61, l_62, l_63, l_79, l_81, l_88, l_93, l_97, l_99, l_105, l_117, l_121, l_122, l_125, l_127, l_131, l_179, l_185, l_193, l_197, l_200, l_201, l_210, l_255, l_390, l_400, l_616, l_900, l_940, l_999, l_1000, l_1024, e_ltT, e_ltF, e_leT, e_leF, e_eqT, e_eqF, e_cl, e_in, e_gd, e_bd, e_ne, e_en, e_nlt, e_ltn, e_len, e_nle, e_nn, e_z0, e_z1, nI_add, pk_mul, e_sub, Nf_app, e_refl, e_reflN, reduceIte, ite_true_, ite_false_, oI_sI, oI_sL, oI_sW, oI_sA, oI_sJ, oI_sX, oL_sI, oL_sL, oL_sW, oL_sA, oL_sJ, oL_sX, oW_sI, oW_sL, oW_sW, oW_sA, oW_sJ, oW_sX, oA_sI, oA_sL, oA_sW, oA_sA, oA_sJ, oA_sX, oJ_sI, oJ_sL, oJ_sW, oJ_sA, oJ_sJ, oJ_sX, oX_sI, oX_sL, oX_sW, oX_sA, oX_sJ, oX_sX, Nat.reduceEqDiff, n10, n01, h6]
theorem nots_stop {x : Nat} (h4 : oI M 42 = nI t) (ht : t ≤ 45) (h : t = 0 ∨ (oA M 39 (t - 1) = nI x ∧ x ≠ 20 ∧ x < 1000)) (n : Nat) : pX11_nots_l0 (n + 1) M = some M := by
  rw [pX11_nots_l0]
  rcases h with rfl | ⟨h, hx, hx2⟩
  · simp (disch := omega) only [l_0, l_1, l_2, l_3, l_4, l_5, l_6, l_7, l_8, l_9, l_10, l_11, l_12, l_13, l_14, l_15, l_16, l_17, l_18, l_19, l_20, l_21, l_22, l_23, l_24, l_25, l_26, l_27, l_28, l_29, l_30, l_31, l_32, l_33, l_34, l_35, l_36, l_40, l_41, l_48, l_56, l_57, l_59, l_60, l_61, l_62, l_63, l_79, l_81, l_88, l_93, l_97, l_99, l_105, l_117, l_121, l_122, l_125, l_127, l_131, l_179, l_185, l_193, l_197, l_200, l_201, l_210, l_255, l_390, l_400, l_616, l_900, l_940, l_999, l_1000, l_1024, e_ltT, e_ltF, e_leT, e_leF, e_eqT, e_eqF, e_cl, e_in, e_gd, e_bd, e_ne, e_en, e_nlt, e_ltn, e_len, e_nle, e_nn, e_z0, e_z1, nI_add, pk_mul, e_sub, Nf_app, e_refl, e_reflN, reduceIte, ite_true_, ite_false_, h4]
  · by_cases c : t = 0
    · simp (disch := omega) only [l_0, l_1, l_2, l_3, l_4, l_5, l_6, l_7, l_8, l_9, l_10, l_11, l_12, l_13, l_14, l_15, l_16, l_17, l_18, l_19, l_20, l_21, l_22, l_23, l_24, l_25, l_26, l_27, l_28, l_29, l_30, l_31, l_32, l_33, l_34, l_35, l_36, l_40, l_41, l_48, l_56, l_57, l_59, l_60, l_61, l_62, l_63, l_79, l_81, l_88, l_93, l_97, l_99, l_105, l_117, l_121, l_122, l_125, l_127, l_131, l_179, l_185, l_193, l_197, l_200, l_201, l_210, l_255, l_390, l_400, l_616, l_900, l_940, l_999, l_1000, l_1024, e_ltT, e_ltF, e_leT, e_leF, e_eqT, e_eqF, e_cl, e_in, e_gd, e_bd, e_ne, e_en, e_nlt, e_ltn, e_len, e_nle, e_nn, e_z0, e_z1, nI_add, pk_mul, e_sub, Nf_app, e_refl, e_reflN, reduceIte, ite_true_, ite_false_, h4]
    · simp (disch := omega) only [l_0, l_1, l_2, l_3, l_4, l_5, l_6, l_7, l_8, l_9, l_10, l_11, l_12, l_13, l_14, l_15, l_16, l_17, l_18, l_19, l_20, l_21, l_22, l_23, l_24, l_25, l_26, l_27, l_28, l_29, l_30, l_31, l_32, l_33, l_34, l_35, l_36, l_40, l_41, l_48, l_56, l_57, l_59, l_60, l_61, l_62, l_63, l_79, l_81, l_88, l_93, l_97, l_99, l_105, l_117, l_121, l_122, l_125, l_127, l_131, l_179, l_185, l_193, l_197, l_200, l_201, l_210, l_255, l_390, l_400, l_616, l_900, l_940, l_999, l_1000, l_1024, e_ltT, e_ltF, e_leT, e_leF, e_eqT, e_eqF, e_cl, e_in, e_gd, e_bd, e_ne, e_en, e_nlt, e_ltn, e_len, e_nle, e_nn, e_z0, e_z1, nI_add, pk_mul, e_sub, Nf_app, e_refl, e_reflN, reduceIte, ite_true_, ite_false_, h4, h]
theorem join_pop {a c : Nat} (H : RZ tb z lim V M f r o (t + 1) d e) (ht : t < 45) (hr : r < 40) (hc : (c = 21 ∧ (a = 21 ∨ a = 22)) ∨ (c = 22 ∧ a = 22)) (h21 : oA M 39 t = nI c) : ∃ M1, (∀ n, pX11_joins_l0 (nI a) (n + 1) M = pX11_joins_l0 (nI a) n M1) ∧ RZ tb z lim V M1 (va_up f r (c, 0, 0)) (r + 1) o t d e ∧ SF M M1 ∧ oA M1 39 = oA M 39 := by
  obtain ⟨h1, h2, h3, h4, h5, h6⟩ := H
  have hm : CM (sI M 42 (nI t)) f r := h2.gf (by rw [oI_sI, if_neg (by omega)]) rfl
  obtain ⟨z1, z2⟩ := r_emit hm hr c 0 0
  refine ⟨_, fun n => ?_, ⟨(h1.set 42 _ (by omega)).cd r c 0 0, z2, ?_, ?_, ?_, ?_⟩, ((SF.refl M).i 42 _ (by omega)).cd r c 0 0, ?_⟩
  · rw [pX11_joins_l0]
    unfold pX11_joins_j45
    rcases hc with ⟨rfl, _⟩ | ⟨rfl, rfl⟩
    · simp (disch := omega) only [l_0, l_1, l_2, l_3, l_4, l_5, l_6, l_7, l_8, l_9, l_10, l_11, l_12, l_13, l_14, l_15, l_16, l_17, l_18, l_19, l_20, l_21, l_22, l_23, l_24, l_25, l_26, l_27, l_28, l_29, l_30, l_31, l_32, l_33, l_34, l_35, l_36, l_40, l_41, l_48, l_56, l_57, l_59, l_60, l_61, l_62, l_63, l_79, l_81, l_88, l_93, l_97, l_99, l_105, l_117, l_121, l_122, l_125, l_127, l_131, l_179, l_185, l_193, l_197, l_200, l_201, l_210, l_255, l_390, l_400, l_616, l_900, l_940, l_999, l_1000, l_1024, e_ltT, e_ltF, e_leT, e_leF, e_eqT, e_eqF, e_cl, e_in, e_gd, e_bd, e_ne, e_en, e_nlt, e_ltn, e_len, e_nle, e_nn, e_z0, e_z1, nI_add, pk_mul, e_sub, Nf_app, e_refl, e_reflN, reduceIte, ite_true_, ite_false_, oI_sI, oI_sL, oI_sW, oI_sA, oI_sJ, oI_sX, oL_sI, oL_sL, oL_sW, oL_sA, oL_sJ, oL_sX, oW_sI, oW_sL, oW_sW, oW_sA, oW_sJ, oW_sX, oA_sI, oA_sL, oA_sW, oA_sA, oA_sJ, oA_sX, oJ_sI, oJ_sL, oJ_sW, oJ_sA, oJ_sJ, oJ_sX, oX_sI, oX_sL, oX_sW, oX_sA, oX_sJ, oX_sX, Nat.reduceEqDiff, n10, n01, h4, h21, z1, Nat.add_sub_cancel]
    · simp (disch := omega) only [l_0, l_1, l_2, l_3, l_4, l_5, l_6, l_7, l_8, l_9, l_10, l_11, l_12, l_13, l_14, l_15, l_16, l_17, l_18, l_19, l_20, l_21, l_22, l_23, l_24, l_25, l_26, l_27, l_28, l_29, l_30, l_31, l_32, l_33, l_34, l_35, l_36, l_40, l_41, l_48, l_56, l_57, l_59, l_60, l_61, l_62, l_63, l_79, l_81, l_88, l_93, l_97, l_99, l_105, l_117, l_121, l_122, l_125, l_127, l_131, l_179, l_185, l_193, l_197, l_200, l_201, l_210, l_255, l_390, l_400, l_616, l_900, l_940, l_999, l_1000, l_1024, e_ltT, e_ltF, e_leT, e_leF, e_eqT, e_eqF, e_cl, e_in, e_gd, e_bd, e_ne, e_en, e_nlt, e_ltn, e_len, e_nle, e_nn, e_z0, e_z1, nI_add, pk_mul, e_sub, Nf_app, e_refl, e_reflN, reduceIte, ite_true_, ite_false_, oI_sI, oI_sL, oI_sW, oI_sA, oI_sJ, oI_sX, oL_sI, oL_sL, oL_sW, oL_sA, oL_sJ, oL_sX, oW_sI, oW_sL, oW_sW, oW_sA, oW_sJ, oW_sX, oA_sI, oA_sL, oA_sW, oA_sA, oA_sJ, oA_sX, oJ_sI, oJ_sL, oJ_sW, oJ_sA, oJ_sJ, oJ_sX, oX_sI, oX_sL, oX_sW, oX_sA, oX_sJ, oX_sX, Nat.reduceEqDiff, n10, n01, h4, h21, z1, Nat.add_sub_cancel]
  · unfold cdM; simp (disch := omega) only [l_0, l_1, l_2, l_3, l_4, l_5, l_6, l_7, l_8, l_9, l_10, l_11, l_12, l_13, l_14, l_15, l_16, l_17, l_18, l_19, l_20, l_21, l_22, l_23, l_24, l_25, l_26, l_27, l_28, l_29, l_30, l_31, l_32, l_33, l_34, l_35, l_36, l_40, l_41, l_48, l_56, l_57, l_59, l_60, l_61, l_62, l_63, l_79, l_81, l_88, l_93, l_97, l_99, l_105, l_117, l_121, l_122, l_125, l_127, l_131, l_179, l_185, l_193, l_197, l_200, l_201, l_210, l_255, l_390, l_400, l_616, l_900, l_940, l_999, l_1000, l_1024, e_ltT, e_ltF, e_leT, e_leF, e_eqT, e_eqF, e_cl, e_in, e_gd, e_bd, e_ne, e_en, e_nlt, e_ltn, e_len, e_nle, e_nn, e_z0, e_z1, nI_add, pk_mul, e_sub, Nf_app, e_refl, e_reflN, reduceIte, ite_true_, ite_false_, oI_sI, oI_sL, oI_sW, oI_sA, oI_sJ, oI_sX, oL_sI, oL_sL, oL_sW, oL_sA, oL_sJ, oL_sX, oW_sI, oW_sL, oW_sW, oW_sA, oW_sJ, oW_sX, oA_sI, oA_sL, oA_sW, oA_sA, oA_sJ, oA_sX, oJ_sI, oJ_sL, oJ_sW, oJ_sA, oJ_sJ, oJ_sX, oX_sI, oX_sL, oX_sW, oX_sA, oX_sJ, oX_sX, Nat.reduceEqDiff, n10, n01, h3]
  · unfold cdM; simp (disch := omega) only [l_0, l_1, l_2, l_3, l_4, l_5, l_6, l_7, l_8, l_9, l_10, l_11, l_12, l_13, l_14, l_15, l_16, l_17, l_18, l_19, l_20, l_21, l_22, l_23, l_24, l_25, l_26, l_27, l_28, l_29, l_30, l_31, l_32, l_33, l_34, l_35, l_36, l_40, l_41, l_48, l_56, l_57, l_59, l_60, l_61, l_62, l_63, l_79, l_81, l_88, l_93, l_97, l_99, l_105, l_117, l_121, l_122, l_125, l_127, l_131, l_179, l_185, l_193, l_197, l_200, l_201, l_210, l_255, l_390, l_400, l_616, l_900, l_940, l_999, l_1000, l_1024, e_ltT, e_ltF, e_leT, e_leF, e_eqT, e_eqF, e_cl, e_in, e_gd, e_bd, e_ne, e_en, e_nlt, e_ltn, e_len, e_nle, e_nn, e_z0, e_z1, nI_add, pk_mul, e_sub, Nf_app, e_refl, e_reflN, reduceIte, ite_true_, ite_false_, oI_sI, oI_sL, oI_sW, oI_sA, oI_sJ, oI_sX, oL_sI, oL_sL, oL_sW, oL_sA, oL_sJ, oL_sX, oW_sI, oW_sL, oW_sW, oW_sA, oW_sJ, oW_sX, oA_sI, oA_sL, oA_sW, oA_sA, oA_sJ, oA_sX, oJ_sI, oJ_sL, oJ_sW, oJ_sA, oJ_sJ, oJ_sX, oX_sI, oX_sL, oX_sW, oX_sA, oX_sJ, oX_sX, Nat.reduceEqDiff, n10, n01, h4]
  · unfold cdM; simp (disch := omega) only [l_0, l_1, l_2, l_3, l_4, l_5, l_6, l_7, l_8, l_9, l_10, l_11, l_12, l_13, l_14, l_15, l_16, l_17, l_18, l_19, l_20, l_21, l_22, l_23, l_24, l_25, l_26, l_27, l_28, l_29, l_30, l_31, l_32, l_33, l_34, l_35, l_36, l_40, l_41, l_48, l_56, l_57, l_59, l_60, l_61, l_62, l_63, l_79, l_81, l_88, l_93, l_97, l_99, l_105, l_117, l_121, l_122, l_125, l_127, l_131, l_179, l_185, l_193, l_197, l_200, l_201, l_210, l_255, l_390, l_400, l_616, l_900, l_940, l_999, l_1000, l_1024, e_ltT, e_ltF, e_leT, e_leF, e_eqT, e_eqF, e_cl, e_in, e_gd, e_bd, e_ne, e_en, e_nlt, e_ltn, e_len, e_nle, e_nn, e_z0, e_z1, nI_add, pk_mul, e_sub, Nf_app, e_refl, e_reflN, reduceIte, ite_true_, ite_false_, oI_sI, oI_sL, oI_sW, oI_sA, oI_sJ, oI_sX, oL_sI, oL_sL, oL_sW, oL_sA, oL_sJ, oL_sX, oW_sI, oW_sL, oW_sW, oW_sA, oW_sJ, oW_sX, oA_sI, oA_sL, oA_sW, oA_sA, oA_sJ, oA_sX, oJ_sI, oJ_sL, oJ_sW, oJ_sA, oJ_sJ, oJ_sX, oX_sI, oX_sL, oX_sW, oX_sA, oX_sJ, oX_sX, Nat.reduceEqDiff, n10, n01, h5]
  · unfold cdM; simp (disch := omega) only [l_0, l_1, l_2, l_3, l_4, l_5, l_6, l_7, l_8, l_9, l_10, l_11, l_12, l_13, l_14, l_15, l_16, l_17, l_18, l_19, l_20, l_21, l_22, l_23, l_24, l_25, l_26, l_27, l_28, l_29, l_30, l_31, l_32, l_33, l_34, l_35, l_36, l_40, l_41, l_48, l_56, l_57, l_59, l_60, l_61, l_62, l_63, l_79, l_81, l_88, l_93, l_97, l_99, l_105, l_117, l_121, l_122, l_125, l_127, l_131, l_179, l_185, l_193, l_197, l_200, l_201, l_210, l_255, l_390, l_400, l_616, l_900, l_940, l_999, l_1000, l_1024, e_ltT, e_ltF, e_leT, e_leF, e_eqT, e_eqF, e_cl, e_in, e_gd, e_bd, e_ne, e_en, e_nlt, e_ltn, e_len, e_nle, e_nn, e_z0, e_z1, nI_add, pk_mul, e_sub, Nf_app, e_refl, e_reflN, reduceIte, ite_true_, ite_false_, oI_sI, oI_sL, oI_sW, oI_sA, oI_sJ, oI_sX, oL_sI, oL_sL, oL_sW, oL_sA, oL_sJ, oL_sX, oW_sI, oW_sL, oW_sW, oW_sA, oW_sJ, oW_sX, oA_sI, oA_sL, oA_sW, oA_sA, oA_sJ, oA_sX, oJ_sI, oJ_sL, oJ_sW, oJ_sA, oJ_sJ, oJ_sX, oX_sI, oX_sL, oX_sW, oX_sA, oX_sJ, oX_sX, Nat.reduceEqDiff, n10, n01, h6]
  · unfold cdM; simp (disch := omega) only [l_0, l_1, l_2, l_3, l_4, l_5, l_6, l_7, l_8, l_9, l_10, l_11, l_12, l_13, l_14, l_15, l_16, l_17, l_18, l_19, l_20, l_21, l_22, l_23, l_24, l_25, l_26, l_27, l_28, l_29, l_30, l_31, l_32, l_33, l_34, l_35, l_36, l_40, l_41, l_48, l_56, l_57, l_59, l_60, l_61, l_62, l_63, l_79, l_81, l_88, l_93, l_97, l_99, l_105, l_117, l_121, l_122, l_125, l_127, l_131, l_179, l_185, l_193, l_197, l_200, l_201, l_210, l_255, l_390, l_400, l_616, l_900, l_940, l_999, l_1000, l_1024, e_ltT, e_ltF, e_leT, e_leF, e_eqT, e_eqF, e_cl, e_in, e_gd, e_bd, e_ne, e_en, e_nlt, e_ltn, e_len, e_nle, e_nn, e_z0, e_z1, nI_add, pk_mul, e_sub, Nf_app, e_refl, e_reflN, reduceIte, ite_true_, ite_false_, oI_sI, oI_sL, oI_sW, oI_sA, oI_sJ, oI_sX, oL_sI, oL_sL, oL_sW, oL_sA, oL_sJ, oL_sX, oW_sI, oW_sL, oW_sW, oW_sA, oW_sJ, oW_sX, oA_sI, oA_sL, oA_sW, oA_sA, oA_sJ, oA_sX, oJ_sI, oJ_sL, oJ_sW, oJ_sA, oJ_sJ, oJ_sX, oX_sI, oX_sL, oX_sW, oX_sA, oX_sJ, oX_sX, Nat.reduceEqDiff, n10, n01, h6]
theorem join_stop {a x : Nat} (h4 : oI M 42 = nI t) (ht : t ≤ 45) (ha : a = 21 ∨ a = 22) (h : t = 0 ∨ (oA M 39 (t - 1) = nI x ∧ (x = 23 ∨ (x = 22 ∧ a = 21)))) (n : Nat) : pX11_joins_l0 (nI a) (n + 1) M = some M := by
  rw [pX11_joins_l0]
  rcases h with rfl | ⟨h, hx⟩
  · simp (disch := omega) only [l_0, l_1, l_2, l_3, l_4, l_5, l_6, l_7, l_8, l_9, l_10, l_11, l_12, l_13, l_14, l_15, l_16, l_17, l_18, l_19, l_20, l_21, l_22, l_23, l_24, l_25, l_26, l_27, l_28, l_29, l_30, l_31, l_32, l_33, l_34, l_35, l_36, l_40, l_41, l_48, l_56, l_57, l_59, l_60, l_61, l_62, l_63, l_79, l_81, l_88, l_93, l_97, l_99, l_105, l_117, l_121, l_122, l_125, l_127, l_131, l_179, l_185, l_193, l_197, l_200, l_201, l_210, l_255, l_390, l_400, l_616, l_900, l_940, l_999, l_1000, l_1024, e_ltT, e_ltF, e_leT, e_leF, e_eqT, e_eqF, e_cl, e_in, e_gd, e_bd, e_ne, e_en, e_nlt, e_ltn, e_len, e_nle, e_nn, e_z0, e_z1, nI_add, pk_mul, e_sub, Nf_app, e_refl, e_reflN, reduceIte, ite_true_, ite_false_, h4]
  · by_cases c : t = 0
    · simp (disch := omega) only [l_0, l_1, l_2, l_3, l_4, l_5, l_6, l_7, l_8, l_9, l_10, l_11, l_12, l_13, l_14, l_15, l_16, l_17, l_18, l_19, l_20, l_21, l_22, l_23, l_24, l_25, l_26, l_27, l_28, l_29, l_30, l_31, l_32, l_33, l_34, l_35, l_36, l_40, l_41, l_48, l_56, l_57, l_59, l_60, l_61, l_62, l_63, l_79, l_81, l_88, l_93, l_97, l_99, l_105, l_117, l_121, l_122, l_125, l_127, l_131, l_179, l_185, l_193, l_197, l_200, l_201, l_210, l_255, l_390, l_400, l_616, l_900, l_940, l_999, l_1000, l_1024, e_ltT, e_ltF, e_leT, e_leF, e_eqT, e_eqF, e_cl, e_in, e_gd, e_bd, e_ne, e_en, e_nlt, e_ltn, e_len, e_nle, e_nn, e_z0, e_z1, nI_add, pk_mul, e_sub, Nf_app, e_refl, e_reflN, reduceIte, ite_true_, ite_false_, h4]
    · rcases hx with rfl | ⟨rfl, rfl⟩
      · simp (disch := omega) only [l_0, l_1, l_2, l_3, l_4, l_5, l_6, l_7, l_8, l_9, l_10, l_11, l_12, l_13, l_14, l_15, l_16, l_17, l_18, l_19, l_20, l_21, l_22, l_23, l_24, l_25, l_26, l_27, l_28, l_29, l_30, l_31, l_32, l_33, l_34, l_35, l_36, l_40, l_41, l_48, l_56, l_57, l_59, l_60, l_61, l_62, l_63, l_79, l_81, l_88, l_93, l_97, l_99, l_105, l_117, l_121, l_122, l_125, l_127, l_131, l_179, l_185, l_193, l_197, l_200, l_201, l_210, l_255, l_390, l_400, l_616, l_900, l_940, l_999, l_1000, l_1024, e_ltT, e_ltF, e_leT, e_leF, e_eqT, e_eqF, e_cl, e_in, e_gd, e_bd, e_ne, e_en, e_nlt, e_ltn, e_len, e_nle, e_nn, e_z0, e_z1, nI_add, pk_mul, e_sub, Nf_app, e_refl, e_reflN, reduceIte, ite_true_, ite_false_, h4, h]
      · simp (disch := omega) only [l_0, l_1, l_2, l_3, l_4, l_5, l_6, l_7, l_8, l_9, l_10, l_11, l_12, l_13, l_14, l_15, l_16, l_17, l_18, l_19, l_20, l_21, l_22, l_23, l_24, l_25, l_26, l_27, l_28, l_29, l_30, l_31, l_32, l_33, l_34, l_35, l_36, l_40, l_41, l_48, l_56, l_57, l_59, l_60, l_61, l_62, l_63, l_79, l_81, l_88, l_93, l_97, l_99, l_105, l_117, l_121, l_122, l_125, l_127, l_131, l_179, l_185, l_193, l_197, l_200, l_201, l_210, l_255, l_390, l_400, l_616, l_900, l_940, l_999, l_1000, l_1024, e_ltT, e_ltF, e_leT, e_leF, e_eqT, e_eqF, e_cl, e_in, e_gd, e_bd, e_ne, e_en, e_nlt, e_ltn, e_len, e_nle, e_nn, e_z0, e_z1, nI_add, pk_mul, e_sub, Nf_app, e_refl, e_reflN, reduceIte, ite_true_, ite_false_, h4, h]
/-- what stands above the base of a bracket -/
def KS (M : Ob) (t : Nat) (orw a : Bool) : Prop := (t = 0 ∨ oA M 39 (t - 1) = nI 23) ∧ (orw = true → oA M 39 t = nI 22) ∧ (a = true → oA M 39 (t + b01 orw) = nI 21)
theorem KS.of {M' : Ob} {t : Nat} {orw a : Bool} (H : KS M t orw a) (h : ∀ i, i < t + b01 orw + b01 a → oA M' 39 i = oA M 39 i) : KS M' t orw a := by
  obtain ⟨h1, h2, h3⟩ := H
  refine ⟨?_, fun x => ?_, fun x => ?_⟩
  · rcases h1 with h | h1
    · exact Or.inl h
    · by_cases c : t = 0
      · exact Or.inl c
      · exact Or.inr (by rw [h _ (by omega)]; exact h1)
  · subst x; rw [h t (by rw [b01_t]; omega)]; exact h2 rfl
  · subst x; rw [h _ (by rw [b01_t]; omega)]; exact h3 rfl
theorem va_self {r : Nat} {c : Cd} (h : f r = c) : ∀ i, f i = va_up f r c i := fun i => by
  by_cases e : i = r
  · rw [uv_eq e, e]; exact h
  · rw [uv_ne e]
theorem kx_nots {orw a : Bool} (h4 : oI M 42 = nI (t + b01 orw + b01 a)) (ht : t ≤ 40) (K : KS M t orw a) : pX11_nots M = some M := by
  have h : pX11_nots_l0 fu M = some M := by
    rw [show fu = 99999 + 1 from rfl]
    have b1 := b01_le orw
    have b2 := b01_le a
    obtain ⟨k1, k2, k3⟩ := K
    cases a with
    | true => exact nots_stop (x := 21) h4 (by omega) (Or.inr ⟨by rw [b01_t, Nat.add_sub_cancel]; exact k3 rfl, by omega, by omega⟩) _
    | false =>
      rw [b01_f, Nat.add_zero] at h4
      cases orw with
      | true => exact nots_stop (x := 22) h4 (by omega) (Or.inr ⟨by rw [b01_t, Nat.add_sub_cancel]; exact k2 rfl, by omega, by omega⟩) _
      | false =>
        rw [b01_f, Nat.add_zero] at h4
        exact nots_stop (x := 23) h4 (by omega) (k1.imp id (fun h => ⟨h, by omega, by omega⟩)) _
  unfold pX11_nots
  rw [h, e_bd]
theorem kx_j21 {orw a : Bool} (H : RZ tb z lim V M f r o (t + b01 orw + b01 a) d e) (ht : t ≤ 40) (hr : r < 40) (K : KS M t orw a) (ha : a = true → f r = (21, 0, 0)) : ∃ M2, pX11_joins M (nI 21) = some M2 ∧ RZ tb z lim V M2 f (r + b01 a) o (t + b01 orw) d e ∧ SF M M2 ∧ oA M2 39 = oA M 39 := by
  have b1 := b01_le orw
  have st : ∀ M', oI M' 42 = nI (t + b01 orw) → oA M' 39 = oA M 39 → ∀ n, pX11_joins_l0 (nI 21) (n + 1) M' = some M' := fun M' h4 e9 n => by
    obtain ⟨k1, k2, k3⟩ := K
    cases orw with
    | true => exact join_stop (x := 22) h4 (by omega) (by omega) (Or.inr ⟨by rw [e9, b01_t, Nat.add_sub_cancel]; exact k2 rfl, by omega⟩) n
    | false =>
      rw [b01_f, Nat.add_zero] at h4
      exact join_stop (x := 23) h4 (by omega) (by omega) (k1.imp id (fun h => ⟨by rw [e9]; exact h, by omega⟩)) n
  unfold pX11_joins
  cases a with
  | true =>
    obtain ⟨M1, x1, x2, x3, x4⟩ := join_pop (a := 21) (c := 21) H (by omega) hr (by omega) (K.2.2 rfl)
    refine ⟨M1, ?_, x2.cong (fun i _ => va_self (ha rfl) i), x3, x4⟩
    rw [show fu = 99998 + 1 + 1 from rfl, x1, st M1 x2.2.2.2.1 x4, e_bd]
  | false =>
    refine ⟨M, ?_, H, SF.refl M, rfl⟩
    rw [show fu = 99999 + 1 from rfl, st M H.2.2.2.1 rfl, e_bd]
def orF (orw : Bool) (f : Nat → Cd) (s : Nat) : Nat → Cd := if orw = true then va_up f s (22, 0, 0) else f
theorem kx_j22 {orw a : Bool} (H : RZ tb z lim V M f r o (t + b01 orw + b01 a) d e) (ht : t ≤ 40) (hr : r + b01 a + b01 orw ≤ 40) (K : KS M t orw a) (ha : a = true → f r = (21, 0, 0)) : ∃ M2, pX11_joins M (nI 22) = some M2 ∧ RZ tb z lim V M2 (orF orw f (r + b01 a)) (r + b01 a + b01 orw) o t d e ∧ SF M M2 ∧ oA M2 39 = oA M 39 := by
  have b1 := b01_le orw
  have st : ∀ M', oI M' 42 = nI t → oA M' 39 = oA M 39 → ∀ n, pX11_joins_l0 (nI 22) (n + 1) M' = some M' := fun M' h4 e9 n => by
    obtain ⟨k1, k2, k3⟩ := K
    exact join_stop (x := 23) h4 (by omega) (by omega) (k1.imp id (fun h => ⟨by rw [e9]; exact h, by omega⟩)) n
  have so : ∀ M' q, q + b01 orw ≤ 40 → RZ tb z lim V M' f q o (t + b01 orw) d e → oA M' 39 = oA M 39 → ∃ M2, (∀ n, pX11_joins_l0 (nI 22) (n + 1 + 1) M' = some M2) ∧ RZ tb z lim V M2 (orF orw f q) (q + b01 orw) o t d e ∧ SF M' M2 ∧ oA M2 39 = oA M 39 := fun M' q hq H' e9 => by
    cases orw with
    | true =>
      rw [b01_t] at hq
      obtain ⟨M1, x1, x2, x3, x4⟩ := join_pop (a := 22) (c := 22) H' (by omega) (by omega) (by omega) (by rw [e9]; exact K.2.1 rfl)
      exact ⟨M1, fun n => by rw [x1, st M1 x2.2.2.2.1 (x4.trans e9)], x2, x3, x4.trans e9⟩
    | false => exact ⟨M', fun n => st M' H'.2.2.2.1 e9 _, H', SF.refl M', e9⟩
  unfold pX11_joins
  cases a with
  | true =>
    rw [b01_t] at hr
    obtain ⟨M1, x1, x2, x3, x4⟩ := join_pop (a := 22) (c := 21) H (by omega) (by omega) (by omega) (K.2.2 rfl)
    obtain ⟨M2, y1, y2, y3, y4⟩ := so M1 (r + 1) (by omega) (x2.cong (fun i _ => va_self (ha rfl) i)) x4
    refine ⟨M2, ?_, y2, x3.trans y3, y4⟩
    rw [show fu = 99997 + 1 + 1 + 1 from rfl, x1, y1, e_bd]
  | false =>
    rw [b01_f] at hr
    obtain ⟨M2, y1, y2, y3, y4⟩ := so M r (by omega) H rfl
    refine ⟨M2, ?_, y2, y3, y4⟩
    rw [show fu = 99998 + 1 + 1 from rfl, y1, e_bd]
end
/-! how the codes grow -/
theorem lcn_cong {f f' : Nat → Cd} : ∀ (s : Nat), (∀ i, i < s → f' i = f i) → lcn f' s = lcn f s
  | 0, _ => rfl
  | s + 1, h => by rw [lcn, lcn, lcn_cong s (fun i hi => h i (by omega)), h s (by omega)]
theorem lcn_up {f : Nat → Cd} {s : Nat} {c : Cd} : lcn (va_up f s c) (s + 1) = lcn f s + (if c.1 ≤ 8 then 1 else 0) := by
  rw [lcn, lcn_cong s (fun i hi => uv_ne (by omega)), uv_eq rfl]
def GR (g : Nat → Nat) (f : Nat → Cd) (s o : Nat) (f' : Nat → Cd) (s' o' : Nat) : Prop := o < o' ∧ o' ≤ 20 ∧ s' + 1 ≤ s + 2 * (o' - o) ∧ (∀ i, i < s → f' i = f i) ∧ EV f' s s' ∧ (∀ i, s ≤ i → i < s' → VF g (f' i)) ∧ lcn f' s' ≤ lcn f s + (o' - o)
def GL (g : Nat → Nat) (f : Nat → Cd) (s o : Nat) (f' : Nat → Cd) (s' o' : Nat) (orw : Bool) : Prop := o < o' ∧ o' ≤ 20 ∧ s' + b01 orw + 1 ≤ s + 2 * (o' - o) ∧ (∀ i, i < s → f' i = f i) ∧ (if orw = true then ∃ s1, EV f' s s1 ∧ EV f' s1 s' else EV f' s s') ∧ (∀ i, s ≤ i → i < s' → VF g (f' i)) ∧ lcn f' s' ≤ lcn f s + (o' - o)
section
variable {g : Nat → Nat} {f f' f'' : Nat → Cd} {s s' s'' o o' o'' : Nat}
theorem VF.op {c : Nat} (hc : c = 20 ∨ c = 21 ∨ c = 22) : VF g (c, 0, 0) := ⟨Or.inr (by show c = 20 ∨ _; exact hc), by show 0 < 1000; omega, by show 0 < 1000; omega, fun h => by have h : c = 4 := h; omega, fun _ h => by have h : c ≤ 8 := h; omega⟩
theorem vf_up (h : ∀ i, s ≤ i → i < s' → VF g (f i)) {c : Cd} (hc : VF g c) : ∀ i, s ≤ i → i < s' + 1 → VF g (va_up f s' c i) := fun i h1 h2 => by
  by_cases e : i = s'
  · rw [uv_eq e]; exact hc
  · rw [uv_ne e]; exact h i h1 (by omega)
theorem GR.leaf {c u v : Nat} (hc : c ≤ 8) (ho : o < 20) (hv : VF g (c, u, v)) : GR g f s o (va_up f s (c, u, v)) (s + 1) (o + 1) := ⟨by omega, by omega, by omega, fun i hi => uv_ne (by omega), EV.leaf hc, vf_up (fun i h1 h2 => by omega) hv, by rw [lcn_up]; split <;> omega⟩
theorem GR.wide (H : GR g f s (o + 1) f' s' o') : GR g f s o f' s' o' := ⟨by have := H.1; omega, H.2.1, by have := H.2.2.1; omega, H.2.2.2.1, H.2.2.2.2.1, H.2.2.2.2.2.1, by have := H.2.2.2.2.2.2; omega⟩
theorem GR.not (H : GR g f s (o + 1) f' s' o') : GR g f s o (va_up f' s' (20, 0, 0)) (s' + 1) o' := by
  obtain ⟨h1, h2, h3, h4, h5, h6, h7⟩ := H
  have := h5.1
  refine ⟨by omega, h2, by omega, fun i hi => by rw [uv_ne (by omega)]; exact h4 i hi, h5.not, vf_up h6 (VF.op (by omega)), ?_⟩
  rw [lcn_up, if_neg (by show ¬ 20 ≤ 8; omega)]
  omega
theorem GR.gl (H : GR g f s o f' s' o') : GL g f s o f' s' o' false := ⟨H.1, H.2.1, by rw [b01_f]; exact H.2.2.1, H.2.2.2.1, by rw [if_neg (by decide)]; exact H.2.2.2.2.1, H.2.2.2.2.2⟩
theorem GL.gr (H : GL g f s o f' s' o' false) : GR g f s o f' s' o' := by
  obtain ⟨h1, h2, h3, h4, h5, h6, h7⟩ := H
  rw [if_neg (by decide)] at h5
  exact ⟨h1, h2, by rw [b01_f] at h3; exact h3, h4, h5, h6, h7⟩
theorem GL.le {orw : Bool} (H : GL g f s o f' s' o' orw) : s ≤ s' := by
  obtain ⟨h1, h2, h3, h4, h5, h6, h7⟩ := H
  cases orw with
  | true => rw [if_pos rfl] at h5; obtain ⟨s1, a, b⟩ := h5; have := a.1; have := b.1; omega
  | false => rw [if_neg (by decide)] at h5; exact h5.1
theorem GL.fold {orw : Bool} (H : GL g f s o f' s' o' orw) : GL g f s o (orF orw f' s') (s' + b01 orw) o' false := by
  have hl := H.le
  unfold orF
  cases orw with
  | false => exact H
  | true =>
    obtain ⟨h1, h2, h3, h4, h5, h6, h7⟩ := H
    rw [if_pos rfl] at h5
    obtain ⟨s1, a, b⟩ := h5
    rw [b01_t] at h3
    rw [if_pos rfl, b01_t]
    refine ⟨h1, h2, by rw [b01_f]; omega, fun i hi => by rw [uv_ne (by omega)]; exact h4 i hi, ?_, vf_up h6 (VF.op (by omega)), ?_⟩
    · rw [if_neg (by decide)]; exact EV.two (by omega) a b
    · rw [lcn_up, if_neg (by show ¬ 22 ≤ 8; omega)]; omega
theorem GL.or (H : GL g f s o f' s' o' false) (G : GR g f' s' o' f'' s'' o'') : GL g f s o f'' s'' o'' true := by
  have hl := H.le
  obtain ⟨h1, h2, h3, h4, h5, h6, h7⟩ := H
  obtain ⟨k1, k2, k3, k4, k5, k6, k7⟩ := G
  rw [if_neg (by decide)] at h5
  rw [b01_f] at h3
  have := k5.1
  refine ⟨by omega, k2, by rw [b01_t]; omega, fun i hi => by rw [k4 i (by omega)]; exact h4 i hi, ?_, fun i i1 i2 => ?_, by omega⟩
  · rw [if_pos rfl]; exact ⟨s', h5.cong (fun j _ h => k4 j h), k5⟩
  · by_cases c : i < s'
    · rw [k4 i c]; exact h6 i i1 c
    · exact k6 i (by omega) i2
theorem GL.and {orw : Bool} (H : GL g f s o f' s' o' orw) (G : GR g f' s' o' f'' s'' o'') : GL g f s o (va_up f'' s'' (21, 0, 0)) (s'' + 1) o'' orw := by
  have hl := H.le
  obtain ⟨h1, h2, h3, h4, h5, h6, h7⟩ := H
  obtain ⟨k1, k2, k3, k4, k5, k6, k7⟩ := G
  have := k5.1
  refine ⟨by omega, k2, by omega, fun i hi => by rw [uv_ne (by omega), k4 i (by omega)]; exact h4 i hi, ?_, vf_up (fun i i1 i2 => ?_) (VF.op (by omega)), ?_⟩
  · cases orw with
    | false =>
      rw [if_neg (by decide)] at h5 ⊢
      exact EV.two (by omega) (h5.cong (fun j _ h => k4 j h)) k5
    | true =>
      rw [if_pos rfl] at h5 ⊢
      obtain ⟨s1, a, b⟩ := h5
      have := b.1
      refine ⟨s1, a.cong (fun j _ h => ?_), EV.two (by omega) (b.cong (fun j _ h => k4 j h)) k5⟩
      rw [uv_ne (by omega)]; exact k4 j (by omega)
  · by_cases c : i < s'
    · rw [k4 i c]; exact h6 i i1 c
    · exact k6 i (by omega) i2
  · rw [lcn_up, if_neg (by show ¬ 21 ≤ 8; omega)]; omega
end
