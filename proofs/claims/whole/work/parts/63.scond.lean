/-! the reading of a sentence: a row of ones, in both -/
section
variable {tb : Nat → Nat} {z lim : Nat} {V2 : Ob} {g nn : Nat → Nat} {rc ro : RdF}
theorem kx_notsn {M : Ob} {t : Nat} {orw a : Bool} (h4 : oI M 42 = nI (t + b01 orw + b01 a)) (ht : t ≤ 40) (K : KS M t orw a) (n : Nat) : pX11_nots_l0 (n + 1) M = some M := by
  have b1 := b01_le orw
  have b2 := b01_le a
  obtain ⟨k1, k2, k3⟩ := K
  cases a with
  | true => exact nots_stop (x := 21) h4 (by omega) (Or.inr ⟨by rw [b01_t, Nat.add_sub_cancel]; exact k3 rfl, by omega, by omega⟩) _
  | false =>
    rw [b01_f, Nat.add_zero] at h4
    cases orw with
    | true => exact nots_stop (x := 22) h4 (by omega) (Or.inr ⟨by rw [b01_t, Nat.add_sub_cancel]; exact k2 rfl, by omega, by omega⟩) _
    | false =>
      rw [b01_f, Nat.add_zero] at h4
      exact nots_stop (x := 23) h4 (by omega) (k1.imp id (fun h => ⟨h, by omega, by omega⟩)) _
def psb (M : Ob) (t x : Nat) : Ob := sI (sI (sA M 39 (va_up (oA M 39) t (nI x))) 42 (nI (t + 1))) 44 (nI 0)
theorem be_and {V M M1 M2 R : Ob} {t : Nat} (h1 : pX11_nots M = some M1) (p1 : PS V M1 tb z lim) (e : oW V 8 = some 12) (h2 : pX11_joins M1 (nI 21) = some M2) (p2 : PS V M2 tb z lim) (h42 : oI M2 42 = nI t) (ht : t < 45) (hn : pX11_next (psb M2 t 21) = some R) : pX11_behind M = some (nI 1, R) := by
  have a1 := twT p1 (i := 12) (by omega) e
  have a2 := twT p2 (i := 12) (by omega) e
  unfold psb at hn
  unfold pX11_behind
  rw [h1, e_bd, lw_12, a1, e_bd, if_neg n1z]
  unfold pX11_behind_j24
  rw [lw_12, a1, e_bd, if_neg n1z]
  unfold pX11_behind_j42
  rw [l_21, h2, e_bd, lw_12, a2, e_bd, if_neg n1z]
  unfold pX11_behind_j70
  simp (disch := omega) only [l_0, l_1, l_2, l_3, l_4, l_5, l_6, l_7, l_8, l_9, l_10, l_11, l_12, l_13, l_14, l_15, l_16, l_17, l_18, l_19, l_20, l_21, l_22, l_23, l_24, l_25, l_26, l_27, l_28, l_29, l_30, l_31, l_32, l_33, l_34, l_35, l_36, l_40, l_41, l_48, l_56, l_57, l_59, l_60, l_61, l_62, l_63, l_79, l_81, l_88, l_93, l_97, l_99, l_105, l_117, l_121, l_122, l_125, l_127, l_131, l_179, l_185, l_193, l_197, l_200, l_201, l_210, l_255, l_390, l_400, l_616, l_900, l_940, l_999, l_1000, l_1024, e_ltT, e_ltF, e_leT, e_leF, e_eqT, e_eqF, e_cl, e_in, e_gd, e_bd, e_ne, e_en, e_nlt, e_ltn, e_len, e_nle, e_nn, e_z0, e_z1, nI_add, pk_mul, e_sub, Nf_app, e_refl, e_reflN, reduceIte, ite_true_, ite_false_, oI_sI, oI_sL, oI_sW, oI_sA, oI_sJ, oI_sX, oL_sI, oL_sL, oL_sW, oL_sA, oL_sJ, oL_sX, oW_sI, oW_sL, oW_sW, oW_sA, oW_sJ, oW_sX, oA_sI, oA_sL, oA_sW, oA_sA, oA_sJ, oA_sX, oJ_sI, oJ_sL, oJ_sW, oJ_sA, oJ_sJ, oJ_sX, oX_sI, oX_sL, oX_sW, oX_sA, oX_sJ, oX_sX, Nat.reduceEqDiff, n10, n01, h42, hn]
theorem be_or {V M M1 M2 R : Ob} {t : Nat} (h1 : pX11_nots M = some M1) (p1 : PS V M1 tb z lim) (e : oW V 8 = some 11) (h2 : pX11_joins M1 (nI 22) = some M2) (p2 : PS V M2 tb z lim) (h42 : oI M2 42 = nI t) (ht : t < 45) (hn : pX11_next (psb M2 t 22) = some R) : pX11_behind M = some (nI 1, R) := by
  have n12 := w_ne e (j := 12) (by omega)
  have a1 := twF p1 (i := 12) (by omega) n12
  have a2 := twF p2 (i := 12) (by omega) n12
  have a3 := twT p1 (i := 11) (by omega) e
  unfold psb at hn
  unfold pX11_behind
  rw [h1, e_bd, lw_12, a1, e_bd, if_pos l_0.symm, lw_11, a3, e_bd, if_neg n1z]
  unfold pX11_behind_j24
  rw [lw_12, a1, e_bd, if_pos l_0.symm]
  unfold pX11_behind_j42
  rw [l_22, h2, e_bd, lw_12, a2, e_bd, if_pos l_0.symm]
  unfold pX11_behind_j70
  simp (disch := omega) only [l_0, l_1, l_2, l_3, l_4, l_5, l_6, l_7, l_8, l_9, l_10, l_11, l_12, l_13, l_14, l_15, l_16, l_17, l_18, l_19, l_20, l_21, l_22, l_23, l_24, l_25, l_26, l_27, l_28, l_29, l_30, l_31, l_32, l_33, l_34, l_35, l_36, l_40, l_41, l_48, l_56, l_57, l_59, l_60, l_61, l_62, l_63, l_79, l_81, l_88, l_93, l_97, l_99, l_105, l_117, l_121, l_122, l_125, l_127, l_131, l_179, l_185, l_193, l_197, l_200, l_201, l_210, l_255, l_390, l_400, l_616, l_900, l_940, l_999, l_1000, l_1024, e_ltT, e_ltF, e_leT, e_leF, e_eqT, e_eqF, e_cl, e_in, e_gd, e_bd, e_ne, e_en, e_nlt, e_ltn, e_len, e_nle, e_nn, e_z0, e_z1, nI_add, pk_mul, e_sub, Nf_app, e_refl, e_reflN, reduceIte, ite_true_, ite_false_, oI_sI, oI_sL, oI_sW, oI_sA, oI_sJ, oI_sX, oL_sI, oL_sL, oL_sW, oL_sA, oL_sJ, oL_sX, oW_sI, oW_sL, oW_sW, oW_sA, oW_sJ, oW_sX, oA_sI, oA_sL, oA_sW, oA_sA, oA_sJ, oA_sX, oJ_sI, oJ_sL, oJ_sW, oJ_sA, oJ_sJ, oJ_sX, oX_sI, oX_sL, oX_sW, oX_sA, oX_sJ, oX_sX, Nat.reduceEqDiff, n10, n01, h42, hn]
theorem be_push {V M : Ob} {f : Nat → Cd} {s o t d : Nat} (H : RZ tb z lim V M f s o t d 1) (ac : AC V M z) (x : Nat) : ∃ V1 R, pX8_advance V = some V1 ∧ pX11_next (psb M t x) = some R ∧ RZ tb z lim V1 R f s o (t + 1) d 0 ∧ SF M R ∧ (∀ i, i < t → oA R 39 i = oA M 39 i) ∧ oA R 39 t = nI x := by
  obtain ⟨h1, h2, h3, h4, h5, h6⟩ := H
  have e9 : oA (psb M t x) 39 = va_up (oA M 39) t (nI x) := by unfold psb; rw [oA_sI, oA_sI, oA_sA, if_pos rfl]
  have hp : PS V (psb M t x) tb z lim := ((h1.setA 39 _ (by omega)).set 42 _ (by omega)).set 44 _ (by omega)
  have e4 : oI (psb M t x) 4 = oI M 4 := by unfold psb; simp (disch := omega) only [l_0, l_1, l_2, l_3, l_4, l_5, l_6, l_7, l_8, l_9, l_10, l_11, l_12, l_13, l_14, l_15, l_16, l_17, l_18, l_19, l_20, l_21, l_22, l_23, l_24, l_25, l_26, l_27, l_28, l_29, l_30, l_31, l_32, l_33, l_34, l_35, l_36, l_40, l_41, l_48, l_56, l_57, l_59, l_60, l_61, l_62, l_63, l_79, l_81, l_88, l_93, l_97, l_99, l_105, l_117, l_121, l_122, l_125, l_127, l_131, l_179, l_185, l_193, l_197, l_200, l_201, l_210, l_255, l_390, l_400, l_616, l_900, l_940, l_999, l_1000, l_1024, e_ltT, e_ltF, e_leT, e_leF, e_eqT, e_eqF, e_cl, e_in, e_gd, e_bd, e_ne, e_en, e_nlt, e_ltn, e_len, e_nle, e_nn, e_z0, e_z1, nI_add, pk_mul, e_sub, Nf_app, e_refl, e_reflN, reduceIte, ite_true_, ite_false_, oI_sI, oI_sL, oI_sW, oI_sA, oI_sJ, oI_sX, oL_sI, oL_sL, oL_sW, oL_sA, oL_sJ, oL_sX, oW_sI, oW_sL, oW_sW, oW_sA, oW_sJ, oW_sX, oA_sI, oA_sL, oA_sW, oA_sA, oA_sJ, oA_sX, oJ_sI, oJ_sL, oJ_sW, oJ_sA, oJ_sJ, oJ_sX, oX_sI, oX_sL, oX_sW, oX_sA, oX_sJ, oX_sX, Nat.reduceEqDiff, n10, n01, h4]
  have hc : CM (psb M t x) f s := h2.gf (by unfold psb; simp (disch := omega) only [l_0, l_1, l_2, l_3, l_4, l_5, l_6, l_7, l_8, l_9, l_10, l_11, l_12, l_13, l_14, l_15, l_16, l_17, l_18, l_19, l_20, l_21, l_22, l_23, l_24, l_25, l_26, l_27, l_28, l_29, l_30, l_31, l_32, l_33, l_34, l_35, l_36, l_40, l_41, l_48, l_56, l_57, l_59, l_60, l_61, l_62, l_63, l_79, l_81, l_88, l_93, l_97, l_99, l_105, l_117, l_121, l_122, l_125, l_127, l_131, l_179, l_185, l_193, l_197, l_200, l_201, l_210, l_255, l_390, l_400, l_616, l_900, l_940, l_999, l_1000, l_1024, e_ltT, e_ltF, e_leT, e_leF, e_eqT, e_eqF, e_cl, e_in, e_gd, e_bd, e_ne, e_en, e_nlt, e_ltn, e_len, e_nle, e_nn, e_z0, e_z1, nI_add, pk_mul, e_sub, Nf_app, e_refl, e_reflN, reduceIte, ite_true_, ite_false_, oI_sI, oI_sL, oI_sW, oI_sA, oI_sJ, oI_sX, oL_sI, oL_sL, oL_sW, oL_sA, oL_sJ, oL_sX, oW_sI, oW_sL, oW_sW, oW_sA, oW_sJ, oW_sX, oA_sI, oA_sL, oA_sW, oA_sA, oA_sJ, oA_sX, oJ_sI, oJ_sL, oJ_sW, oJ_sA, oJ_sJ, oJ_sX, oX_sI, oX_sL, oX_sW, oX_sA, oX_sJ, oX_sX, Nat.reduceEqDiff, n10, n01, h4]) (by unfold psb; simp (disch := omega) only [l_0, l_1, l_2, l_3, l_4, l_5, l_6, l_7, l_8, l_9, l_10, l_11, l_12, l_13, l_14, l_15, l_16, l_17, l_18, l_19, l_20, l_21, l_22, l_23, l_24, l_25, l_26, l_27, l_28, l_29, l_30, l_31, l_32, l_33, l_34, l_35, l_36, l_40, l_41, l_48, l_56, l_57, l_59, l_60, l_61, l_62, l_63, l_79, l_81, l_88, l_93, l_97, l_99, l_105, l_117, l_121, l_122, l_125, l_127, l_131, l_179, l_185, l_193, l_197, l_200, l_201, l_210, l_255, l_390, l_400, l_616, l_900, l_940, l_999, l_1000, l_1024, e_ltT, e_ltF, e_leT, e_leF, e_eqT, e_eqF, e_cl, e_in, e_gd, e_bd, e_ne, e_en, e_nlt, e_ltn, e_len, e_nle, e_nn, e_z0, e_z1, nI_add, pk_mul, e_sub, Nf_app, e_refl, e_reflN, reduceIte, ite_true_, ite_false_, oI_sI, oI_sL, oI_sW, oI_sA, oI_sJ, oI_sX, oL_sI, oL_sL, oL_sW, oL_sA, oL_sJ, oL_sX, oW_sI, oW_sL, oW_sW, oW_sA, oW_sJ, oW_sX, oA_sI, oA_sL, oA_sW, oA_sA, oA_sJ, oA_sX, oJ_sI, oJ_sL, oJ_sW, oJ_sA, oJ_sJ, oJ_sX, oX_sI, oX_sL, oX_sW, oX_sA, oX_sJ, oX_sX, Nat.reduceEqDiff, n10, n01, h4])
  have hs : SF M (psb M t x) := (((SF.refl M).a 39 _ (by omega)).i 42 _ (by omega)).i 44 _ (by omega)
  obtain ⟨V1, R, x1, x2, x3, x4⟩ := p_adv hp (ac.of e4)
  have tf := x4.gf.tf
  refine ⟨V1, R, x1, x2, ⟨x3, x4.gf.cm hc, ?_, ?_, ?_, ?_⟩, hs.trans tf.1, fun i hi => by rw [tf.2.2.2.2.2, e9, uv_ne (by omega)], by rw [tf.2.2.2.2.2, e9, uv_eq rfl]⟩
  · rw [tf.2.1]; unfold psb; simp (disch := omega) only [l_0, l_1, l_2, l_3, l_4, l_5, l_6, l_7, l_8, l_9, l_10, l_11, l_12, l_13, l_14, l_15, l_16, l_17, l_18, l_19, l_20, l_21, l_22, l_23, l_24, l_25, l_26, l_27, l_28, l_29, l_30, l_31, l_32, l_33, l_34, l_35, l_36, l_40, l_41, l_48, l_56, l_57, l_59, l_60, l_61, l_62, l_63, l_79, l_81, l_88, l_93, l_97, l_99, l_105, l_117, l_121, l_122, l_125, l_127, l_131, l_179, l_185, l_193, l_197, l_200, l_201, l_210, l_255, l_390, l_400, l_616, l_900, l_940, l_999, l_1000, l_1024, e_ltT, e_ltF, e_leT, e_leF, e_eqT, e_eqF, e_cl, e_in, e_gd, e_bd, e_ne, e_en, e_nlt, e_ltn, e_len, e_nle, e_nn, e_z0, e_z1, nI_add, pk_mul, e_sub, Nf_app, e_refl, e_reflN, reduceIte, ite_true_, ite_false_, oI_sI, oI_sL, oI_sW, oI_sA, oI_sJ, oI_sX, oL_sI, oL_sL, oL_sW, oL_sA, oL_sJ, oL_sX, oW_sI, oW_sL, oW_sW, oW_sA, oW_sJ, oW_sX, oA_sI, oA_sL, oA_sW, oA_sA, oA_sJ, oA_sX, oJ_sI, oJ_sL, oJ_sW, oJ_sA, oJ_sJ, oJ_sX, oX_sI, oX_sL, oX_sW, oX_sA, oX_sJ, oX_sX, Nat.reduceEqDiff, n10, n01, h3]
  · rw [tf.2.2.1]; unfold psb; simp (disch := omega) only [l_0, l_1, l_2, l_3, l_4, l_5, l_6, l_7, l_8, l_9, l_10, l_11, l_12, l_13, l_14, l_15, l_16, l_17, l_18, l_19, l_20, l_21, l_22, l_23, l_24, l_25, l_26, l_27, l_28, l_29, l_30, l_31, l_32, l_33, l_34, l_35, l_36, l_40, l_41, l_48, l_56, l_57, l_59, l_60, l_61, l_62, l_63, l_79, l_81, l_88, l_93, l_97, l_99, l_105, l_117, l_121, l_122, l_125, l_127, l_131, l_179, l_185, l_193, l_197, l_200, l_201, l_210, l_255, l_390, l_400, l_616, l_900, l_940, l_999, l_1000, l_1024, e_ltT, e_ltF, e_leT, e_leF, e_eqT, e_eqF, e_cl, e_in, e_gd, e_bd, e_ne, e_en, e_nlt, e_ltn, e_len, e_nle, e_nn, e_z0, e_z1, nI_add, pk_mul, e_sub, Nf_app, e_refl, e_reflN, reduceIte, ite_true_, ite_false_, oI_sI, oI_sL, oI_sW, oI_sA, oI_sJ, oI_sX, oL_sI, oL_sL, oL_sW, oL_sA, oL_sJ, oL_sX, oW_sI, oW_sL, oW_sW, oW_sA, oW_sJ, oW_sX, oA_sI, oA_sL, oA_sW, oA_sA, oA_sJ, oA_sX, oJ_sI, oJ_sL, oJ_sW, oJ_sA, oJ_sJ, oJ_sX, oX_sI, oX_sL, oX_sW, oX_sA, oX_sJ, oX_sX, Nat.reduceEqDiff, n10, n01, h3]
  · rw [tf.2.2.2.1]; unfold psb; simp (disch := omega) only [l_0, l_1, l_2, l_3, l_4, l_5, l_6, l_7, l_8, l_9, l_10, l_11, l_12, l_13, l_14, l_15, l_16, l_17, l_18, l_19, l_20, l_21, l_22, l_23, l_24, l_25, l_26, l_27, l_28, l_29, l_30, l_31, l_32, l_33, l_34, l_35, l_36, l_40, l_41, l_48, l_56, l_57, l_59, l_60, l_61, l_62, l_63, l_79, l_81, l_88, l_93, l_97, l_99, l_105, l_117, l_121, l_122, l_125, l_127, l_131, l_179, l_185, l_193, l_197, l_200, l_201, l_210, l_255, l_390, l_400, l_616, l_900, l_940, l_999, l_1000, l_1024, e_ltT, e_ltF, e_leT, e_leF, e_eqT, e_eqF, e_cl, e_in, e_gd, e_bd, e_ne, e_en, e_nlt, e_ltn, e_len, e_nle, e_nn, e_z0, e_z1, nI_add, pk_mul, e_sub, Nf_app, e_refl, e_reflN, reduceIte, ite_true_, ite_false_, oI_sI, oI_sL, oI_sW, oI_sA, oI_sJ, oI_sX, oL_sI, oL_sL, oL_sW, oL_sA, oL_sJ, oL_sX, oW_sI, oW_sL, oW_sW, oW_sA, oW_sJ, oW_sX, oA_sI, oA_sL, oA_sW, oA_sA, oA_sJ, oA_sX, oJ_sI, oJ_sL, oJ_sW, oJ_sA, oJ_sJ, oJ_sX, oX_sI, oX_sL, oX_sW, oX_sA, oX_sJ, oX_sX, Nat.reduceEqDiff, n10, n01, h5]
  · rw [tf.2.2.2.2.1]; unfold psb; simp (disch := omega) only [l_0, l_1, l_2, l_3, l_4, l_5, l_6, l_7, l_8, l_9, l_10, l_11, l_12, l_13, l_14, l_15, l_16, l_17, l_18, l_19, l_20, l_21, l_22, l_23, l_24, l_25, l_26, l_27, l_28, l_29, l_30, l_31, l_32, l_33, l_34, l_35, l_36, l_40, l_41, l_48, l_56, l_57, l_59, l_60, l_61, l_62, l_63, l_79, l_81, l_88, l_93, l_97, l_99, l_105, l_117, l_121, l_122, l_125, l_127, l_131, l_179, l_185, l_193, l_197, l_200, l_201, l_210, l_255, l_390, l_400, l_616, l_900, l_940, l_999, l_1000, l_1024, e_ltT, e_ltF, e_leT, e_leF, e_eqT, e_eqF, e_cl, e_in, e_gd, e_bd, e_ne, e_en, e_nlt, e_ltn, e_len, e_nle, e_nn, e_z0, e_z1, nI_add, pk_mul, e_sub, Nf_app, e_refl, e_reflN, reduceIte, ite_true_, ite_false_, oI_sI, oI_sL, oI_sW, oI_sA, oI_sJ, oI_sX, oL_sI, oL_sL, oL_sW, oL_sA, oL_sJ, oL_sX, oW_sI, oW_sL, oW_sW, oW_sA, oW_sJ, oW_sX, oA_sI, oA_sL, oA_sW, oA_sA, oA_sJ, oA_sX, oJ_sI, oJ_sL, oJ_sW, oJ_sA, oJ_sJ, oJ_sX, oX_sI, oX_sL, oX_sW, oX_sA, oX_sJ, oX_sX, Nat.reduceEqDiff, n10, n01, h5]
/-! the class's loop -/
theorem l15_stop {n : Nat} {d a b : Int32} {S V : Ob} : pX5_readCondF_l15 rc ro V2 d (n + 1) (nI 0) a b S V = some (nI 0, a, S, V) := by
  rw [pX5_readCondF_l15]
  split
  · rfl
  · rw [if_pos l_0.symm]
theorem l15_end {n q : Nat} {d a : Int32} {S V : Ob} (hq : q < 20) (ok : wOk (oW V 8) = true) (n12 : ¬ oW V 8 = some 12) (n11 : ¬ oW V 8 = some 11) : pX5_readCondF_l15 rc ro V2 d (n + 1) (nI 1) a (nI q) S V = some (nI 1, a, S, V) := by
  rw [pX5_readCondF_l15]
  simp (disch := omega) only [l_0, l_1, l_2, l_3, l_4, l_5, l_6, l_7, l_8, l_9, l_10, l_11, l_12, l_13, l_14, l_15, l_16, l_17, l_18, l_19, l_20, l_21, l_22, l_23, l_24, l_25, l_26, l_27, l_28, l_29, l_30, l_31, l_32, l_33, l_34, l_35, l_36, l_40, l_41, l_48, l_56, l_57, l_59, l_60, l_61, l_62, l_63, l_79, l_81, l_88, l_93, l_97, l_99, l_105, l_117, l_121, l_122, l_125, l_127, l_131, l_179, l_185, l_193, l_197, l_200, l_201, l_210, l_255, l_390, l_400, l_616, l_900, l_940, l_999, l_1000, l_1024, e_ltT, e_ltF, e_leT, e_leF, e_eqT, e_eqF, e_cl, e_in, e_gd, e_bd, e_ne, e_en, e_nlt, e_ltn, e_len, e_nle, e_nn, e_z0, e_z1, nI_add, pk_mul, e_sub, Nf_app, e_refl, e_reflN, reduceIte, ite_true_, ite_false_, ok, n12, n11]
theorem l15_and {n q d r1 : Nat} {orw : Bool} {S V V1 S' V' S'' : Ob} (hq : q < 20) (hw : oW V 8 = some 12) (ad : pX8_advance V = some V1) (hr : ro S V1 V2 (nI d) = some (nI r1, S', V')) (ha : pX5_addStep S' (some 12) (nI 0) (nI 0) = some S'') : pX5_readCondF_l15 rc ro V2 (nI d) (n + 1) (nI 1) (nI (b01 orw)) (nI q) S V = pX5_readCondF_l15 rc ro V2 (nI d) n (nI r1) (nI (b01 orw)) (nI (q + 1)) S'' V' := by
  have ok : wOk (some 12) = true := rfl
  rw [pX5_readCondF_l15]
  unfold pX5_readCondF_j47 pX5_readCondF_j62 pX5_readCondF_j83 pX5_readCondF_j93 pX5_readCondF_j98
  cases orw with
  | true => simp (disch := omega) only [l_0, l_1, l_2, l_3, l_4, l_5, l_6, l_7, l_8, l_9, l_10, l_11, l_12, l_13, l_14, l_15, l_16, l_17, l_18, l_19, l_20, l_21, l_22, l_23, l_24, l_25, l_26, l_27, l_28, l_29, l_30, l_31, l_32, l_33, l_34, l_35, l_36, l_40, l_41, l_48, l_56, l_57, l_59, l_60, l_61, l_62, l_63, l_79, l_81, l_88, l_93, l_97, l_99, l_105, l_117, l_121, l_122, l_125, l_127, l_131, l_179, l_185, l_193, l_197, l_200, l_201, l_210, l_255, l_390, l_400, l_616, l_900, l_940, l_999, l_1000, l_1024, e_ltT, e_ltF, e_leT, e_leF, e_eqT, e_eqF, e_cl, e_in, e_gd, e_bd, e_ne, e_en, e_nlt, e_ltn, e_len, e_nle, e_nn, e_z0, e_z1, nI_add, pk_mul, e_sub, Nf_app, e_refl, e_reflN, reduceIte, ite_true_, ite_false_, hw, ok, b01_t, ad, hr, ha]
  | false => simp (disch := omega) only [l_0, l_1, l_2, l_3, l_4, l_5, l_6, l_7, l_8, l_9, l_10, l_11, l_12, l_13, l_14, l_15, l_16, l_17, l_18, l_19, l_20, l_21, l_22, l_23, l_24, l_25, l_26, l_27, l_28, l_29, l_30, l_31, l_32, l_33, l_34, l_35, l_36, l_40, l_41, l_48, l_56, l_57, l_59, l_60, l_61, l_62, l_63, l_79, l_81, l_88, l_93, l_97, l_99, l_105, l_117, l_121, l_122, l_125, l_127, l_131, l_179, l_185, l_193, l_197, l_200, l_201, l_210, l_255, l_390, l_400, l_616, l_900, l_940, l_999, l_1000, l_1024, e_ltT, e_ltF, e_leT, e_leF, e_eqT, e_eqF, e_cl, e_in, e_gd, e_bd, e_ne, e_en, e_nlt, e_ltn, e_len, e_nle, e_nn, e_z0, e_z1, nI_add, pk_mul, e_sub, Nf_app, e_refl, e_reflN, reduceIte, ite_true_, ite_false_, hw, ok, b01_f, ad, hr, ha]
theorem l15_or {n q d r1 : Nat} {orw : Bool} {S V V1 S2 S' V' : Ob} (hq : q < 20) (hw : oW V 8 = some 11) (ad : pX8_advance V = some V1) (h2 : if orw = true then pX5_addStep S (some 11) (nI 0) (nI 0) = some S2 else S2 = S) (hr : ro S2 V1 V2 (nI d) = some (nI r1, S', V')) : pX5_readCondF_l15 rc ro V2 (nI d) (n + 1) (nI 1) (nI (b01 orw)) (nI q) S V = pX5_readCondF_l15 rc ro V2 (nI d) n (nI r1) (nI (b01 true)) (nI (q + 1)) S' V' := by
  have ok : wOk (some 11) = true := rfl
  have n12 : ((some 11 : Option Nat) = some 12) = False := eq_false (by decide)
  rw [pX5_readCondF_l15]
  unfold pX5_readCondF_j47 pX5_readCondF_j62 pX5_readCondF_j83 pX5_readCondF_j93 pX5_readCondF_j98
  cases orw with
  | true =>
    rw [if_pos rfl] at h2
    simp (disch := omega) only [l_0, l_1, l_2, l_3, l_4, l_5, l_6, l_7, l_8, l_9, l_10, l_11, l_12, l_13, l_14, l_15, l_16, l_17, l_18, l_19, l_20, l_21, l_22, l_23, l_24, l_25, l_26, l_27, l_28, l_29, l_30, l_31, l_32, l_33, l_34, l_35, l_36, l_40, l_41, l_48, l_56, l_57, l_59, l_60, l_61, l_62, l_63, l_79, l_81, l_88, l_93, l_97, l_99, l_105, l_117, l_121, l_122, l_125, l_127, l_131, l_179, l_185, l_193, l_197, l_200, l_201, l_210, l_255, l_390, l_400, l_616, l_900, l_940, l_999, l_1000, l_1024, e_ltT, e_ltF, e_leT, e_leF, e_eqT, e_eqF, e_cl, e_in, e_gd, e_bd, e_ne, e_en, e_nlt, e_ltn, e_len, e_nle, e_nn, e_z0, e_z1, nI_add, pk_mul, e_sub, Nf_app, e_refl, e_reflN, reduceIte, ite_true_, ite_false_, hw, ok, n12, b01_t, ad, hr, h2]
  | false =>
    rw [if_neg (by decide)] at h2
    subst h2
    simp (disch := omega) only [l_0, l_1, l_2, l_3, l_4, l_5, l_6, l_7, l_8, l_9, l_10, l_11, l_12, l_13, l_14, l_15, l_16, l_17, l_18, l_19, l_20, l_21, l_22, l_23, l_24, l_25, l_26, l_27, l_28, l_29, l_30, l_31, l_32, l_33, l_34, l_35, l_36, l_40, l_41, l_48, l_56, l_57, l_59, l_60, l_61, l_62, l_63, l_79, l_81, l_88, l_93, l_97, l_99, l_105, l_117, l_121, l_122, l_125, l_127, l_131, l_179, l_185, l_193, l_197, l_200, l_201, l_210, l_255, l_390, l_400, l_616, l_900, l_940, l_999, l_1000, l_1024, e_ltT, e_ltF, e_leT, e_leF, e_eqT, e_eqF, e_cl, e_in, e_gd, e_bd, e_ne, e_en, e_nlt, e_ltn, e_len, e_nle, e_nn, e_z0, e_z1, nI_add, pk_mul, e_sub, Nf_app, e_refl, e_reflN, reduceIte, ite_true_, ite_false_, hw, ok, n12, b01_t, b01_f, ad, hr]
def INV (tb : Nat → Nat) (z lim : Nat) (g : Nat → Nat) (M0 : Ob) (f0 : Nat → Cd) (s0 o0 t d : Nat) (S V M M1 : Ob) (f : Nat → Cd) (r s o : Nat) (orw a : Bool) (k : Nat) : Prop :=
  k ≤ 10 ∧ (∀ n, pX11_nots_l0 (n + k) M = pX11_nots_l0 n M1) ∧ PS V M tb z lim ∧ oI M 44 = nI 1 ∧ AW S ∧ CS S f s ∧ oI S 4 = nI o ∧ RZ tb z lim V M1 f r o (t + b01 orw + b01 a) d 1 ∧ s = r + b01 a ∧ (a = true → f r = (21, 0, 0)) ∧ KS M1 t orw a ∧ SF M0 M1 ∧ (∀ i, i < t → oA M1 39 i = oA M0 39 i) ∧ GL g f0 s0 o0 f s o orw
theorem INV.nots {M0 : Ob} {f0 : Nat → Cd} {s0 o0 t d : Nat} {S V M M1 : Ob} {f : Nat → Cd} {r s o : Nat} {orw a : Bool} {k : Nat} (H : INV tb z lim g M0 f0 s0 o0 t d S V M M1 f r s o orw a k) (ht : t ≤ 40) : pX11_nots M = some M1 := by
  obtain ⟨k1, kn, _, _, _, _, _, HZ, _, _, K, _⟩ := H
  unfold pX11_nots
  rw [show fu = ((99999 - k) + 1) + k by rw [fu_eq]; omega, kn, kx_notsn HZ.2.2.2.1 ht K, e_bd]
theorem cond_loop {d : Nat} (hd : 1 ≤ d) (hd9 : d ≤ 9) (HO : ONE tb z lim V2 g nn ro d) {M0 : Ob} {f0 : Nat → Cd} {s0 o0 t : Nat} (hX0 : CX V2 M0 g nn) (hs0 : s0 ≤ 2 * o0) (ht : t ≤ 3 * (d - 1)) : ∀ (n : Nat) (S V M M1 : Ob) (f : Nat → Cd) (r s o : Nat) (orw a : Bool) (k q : Nat), 22 ≤ o + n → q + 1 ≤ o → INV tb z lim g M0 f0 s0 o0 t d S V M M1 f r s o orw a k →
    (∃ S' V' M' M1' f' r' s' o' orw' a' k' q', pX5_readCondF_l15 rc ro V2 (nI d) n (nI 1) (nI (b01 orw)) (nI q) S V = some (nI 1, nI (b01 orw'), S', V') ∧ INV tb z lim g M0 f0 s0 o0 t d S' V' M' M1' f' r' s' o' orw' a' k' ∧ ¬ oW V' 8 = some 12 ∧ ¬ oW V' 8 = some 11 ∧ o ≤ o' ∧ q' ≤ 3 * (o' - o) ∧ ∀ n, pX11_sentence_l48 (n + q') (nI 1) M = pX11_sentence_l48 n (nI 1) M') ∨
    (∃ S' V' M' orw' q', pX5_readCondF_l15 rc ro V2 (nI d) n (nI 1) (nI (b01 orw)) (nI q) S V = some (nI 0, nI (b01 orw'), S', V') ∧ LBD tb M0 S' V' M' ∧ q' ≤ 3 * (21 - o) ∧ ∀ n, pX11_sentence_l48 (n + q') (nI 1) M = some ((-1 : Int32) - oI M' 16, M'))
  | 0, S, V, M, M1, f, r, s, o, orw, a, k, q, h22, hq, H => by
    have := H.2.2.2.2.2.2.2.2.2.2.2.2.2.2.1
    omega
  | n + 1, S, V, M, M1, f, r, s, o, orw, a, k, q, h22, hq, H => by
    have h1 := H.nots (by omega)
    have HI := H
    obtain ⟨k1, kn, p0, m44, hA, HS, h4, HZ, er, ea, K, sf, sb, G⟩ := H
    have g1 := G.1
    have g2 := G.2.1
    have g3 := G.2.2.1
    have b1 := b01_le orw
    have b2 := b01_le a
    have K0 : KS M1 t orw false := ⟨K.1, K.2.1, fun h => (nomatch h)⟩
    by_cases c12 : oW V 8 = some 12
    · obtain ⟨M2, j1, Z2, sf2, e39⟩ := kx_j21 HZ (by omega) (by omega) K ea
      rw [← er] at Z2
      obtain ⟨V1, R, ad, nx, ZR, sfR, sbR, stR⟩ := be_push Z2 (tk_acW Z2.1 c12) 21
      have be := be_and h1 HZ.1 c12 j1 Z2.1 Z2.2.2.2.1 (by omega) nx
      have n11 : ¬ oI M 11 = nI 0 := by
        rw [tk_stop p0, tk_w4 p0 c12]
        exact fun x => by have := (nI_eq (by omega) (by omega)).mp x; omega
      have SR1 := (sf.trans sf2).trans sfR
      rcases HO S V1 R f s o (t + b01 orw + 1) ⟨ZR, hX0.sf SR1, hA, HS, h4, g2, by omega, hd, hd9⟩ (by omega) with ⟨S', V', M', y1, f', s', o', M1', k', q', y2, y3, y4, y5, y6, y7, y8, y9, y10, y11, y12, y13, y14⟩ | ⟨S', V', M', y1, ⟨y2, y3, ⟨n', y4, y4'⟩, y5⟩, q', y6, y7⟩
      · have l0 := y14.1
        have l1 := y14.2.2.1
        have l2 := y14.2.1
        obtain ⟨S'', w1, w2, w3, w4⟩ := c_emit y8 y9 (by omega) 21 0 0
        have w1 : pX5_addStep S' (some 12) (nI 0) (nI 0) = some S'' := w1
        have Kn := K0.of (M' := M1') (fun i hi => by rw [b01_f] at hi; rw [y13 i (by omega), sbR i (by omega), e39])
        have I' : INV tb z lim g M0 f0 s0 o0 t d S'' V' M' M1' (va_up f' s' (21, 0, 0)) s' (s' + 1) o' orw true k' := ⟨by omega, y3, y6, y7, w2, w4, w3.trans y10, y11.cong (fun i hi => uv_ne (by omega)), rfl, fun _ => uv_eq rfl, ⟨Kn.1, Kn.2.1, fun _ => by rw [y13 _ (by omega)]; exact stR⟩, SR1.trans y12, fun i hi => by rw [y13 i (by omega), sbR i (by omega), e39]; exact sb i hi, G.and y14⟩
        have el := l15_and (rc := rc) (n := n) (orw := orw) (by omega : q < 20) c12 ad y1 w1
        rw [el]
        rcases cond_loop hd hd9 HO hX0 hs0 ht n S'' V' M' M1' _ s' (s' + 1) o' orw true k' (q + 1) (by omega) (by omega) I' with ⟨S3, V3, M3, M4, f3, r3, s3, o3, orw3, a3, k3, q3, v1, v2, v3, v4, v5, v6, v7⟩ | ⟨S3, V3, M3, orw3, q3, v1, v2, v3, v4⟩
        · exact Or.inl ⟨S3, V3, M3, M4, f3, r3, s3, o3, orw3, a3, k3, q3 + q' + 1, v1, v2, v3, v4, by omega, by omega, fun n' => by rw [show n' + (q3 + q' + 1) = (n' + q3 + q') + 1 by omega, l48_beT m44 n11 be, y5, v7]⟩
        · exact Or.inr ⟨S3, V3, M3, orw3, q3 + q' + 1, v1, v2, by omega, fun n' => by rw [show n' + (q3 + q' + 1) = (n' + q3 + q') + 1 by omega, l48_beT m44 n11 be, y5, v4]⟩
      · obtain ⟨S'', w1, w2, w3, w4, _⟩ := c_step (w := 12) y3 y4' y4 (by omega) (nI 0) (nI 0)
        have el := l15_and (rc := rc) (n := n) (orw := orw) (by omega : q < 20) c12 ad y1 w1
        rw [el]
        obtain ⟨n2, rfl⟩ : ∃ n2, n = n2 + 1 := ⟨n - 1, by omega⟩
        exact Or.inr ⟨S'', V', M', orw, q' + 1, l15_stop, ⟨y2, w2, w4, SR1.trans y5⟩, by omega, fun n' => by rw [show n' + (q' + 1) = (n' + q') + 1 by omega, l48_beT m44 n11 be, y7]⟩
    · by_cases c11 : oW V 8 = some 11
      · obtain ⟨M2, j1, Z2, sf2, e39⟩ := kx_j22 HZ (by omega) (by omega) K ea
        rw [← er] at Z2
        obtain ⟨V1, R, ad, nx, ZR, sfR, sbR, stR⟩ := be_push Z2 (tk_acW Z2.1 c11) 22
        have be := be_or h1 HZ.1 c11 j1 Z2.1 Z2.2.2.2.1 (by omega) nx
        have n11 : ¬ oI M 11 = nI 0 := by
          rw [tk_stop p0, tk_w4 p0 c11]
          exact fun x => by have := (nI_eq (by omega) (by omega)).mp x; omega
        have SR1 := (sf.trans sf2).trans sfR
        have ⟨S2, A2, C2, o2, e2⟩ : ∃ S2, AW S2 ∧ CS S2 (orF orw f s) (s + b01 orw) ∧ oI S2 4 = nI o ∧ (if orw = true then pX5_addStep S (some 11) (nI 0) (nI 0) = some S2 else S2 = S) := by
          cases orw with
          | true =>
            obtain ⟨S2, w1, w2, w3, w4⟩ := c_emit hA HS (by rw [b01_t] at g3; omega) 22 0 0
            exact ⟨S2, w2, w4, w3.trans h4, by rw [if_pos rfl]; exact w1⟩
          | false => exact ⟨S, hA, HS, h4, by rw [if_neg (by decide)]⟩
        rcases HO S2 V1 R (orF orw f s) (s + b01 orw) o (t + 1) ⟨ZR, hX0.sf SR1, A2, C2, o2, g2, by omega, hd, hd9⟩ (by omega) with ⟨S', V', M', y1, f', s', o', M1', k', q', y2, y3, y4, y5, y6, y7, y8, y9, y10, y11, y12, y13, y14⟩ | ⟨S', V', M', y1, ⟨y2, y3, y4, y5⟩, q', y6, y7⟩
        · have l0 := y14.1
          have l1 := y14.2.2.1
          have l2 := y14.2.1
          have kb : t = 0 ∨ oA M1' 39 (t - 1) = nI 23 := by
            by_cases c : t = 0
            · exact Or.inl c
            · exact Or.inr (by rw [y13 _ (by omega), sbR _ (by omega), e39]; exact K.1.resolve_left c)
          have I' : INV tb z lim g M0 f0 s0 o0 t d S' V' M' M1' f' s' s' o' true false k' := ⟨by omega, y3, y6, y7, y8, y9, y10, y11, rfl, fun h => (nomatch h), ⟨kb, fun _ => by rw [y13 _ (by omega)]; exact stR, fun h => (nomatch h)⟩, SR1.trans y12, fun i hi => by rw [y13 i (by omega), sbR i (by omega), e39]; exact sb i hi, G.fold.or y14⟩
          have el := l15_or (rc := rc) (n := n) (by omega : q < 20) c11 ad e2 y1
          rw [el]
          rcases cond_loop hd hd9 HO hX0 hs0 ht n S' V' M' M1' _ s' s' o' true false k' (q + 1) (by omega) (by omega) I' with ⟨S3, V3, M3, M4, f3, r3, s3, o3, orw3, a3, k3, q3, v1, v2, v3, v4, v5, v6, v7⟩ | ⟨S3, V3, M3, orw3, q3, v1, v2, v3, v4⟩
          · exact Or.inl ⟨S3, V3, M3, M4, f3, r3, s3, o3, orw3, a3, k3, q3 + q' + 1, v1, v2, v3, v4, by omega, by omega, fun n' => by rw [show n' + (q3 + q' + 1) = (n' + q3 + q') + 1 by omega, l48_beT m44 n11 be, y5, v7]⟩
          · exact Or.inr ⟨S3, V3, M3, orw3, q3 + q' + 1, v1, v2, by omega, fun n' => by rw [show n' + (q3 + q' + 1) = (n' + q3 + q') + 1 by omega, l48_beT m44 n11 be, y5, v4]⟩
        · have el := l15_or (rc := rc) (n := n) (by omega : q < 20) c11 ad e2 y1
          rw [el]
          obtain ⟨n2, rfl⟩ : ∃ n2, n = n2 + 1 := ⟨n - 1, by omega⟩
          exact Or.inr ⟨S', V', M', true, q' + 1, l15_stop, ⟨y2, y3, y4, SR1.trans y5⟩, by omega, fun n' => by rw [show n' + (q' + 1) = (n' + q') + 1 by omega, l48_beT m44 n11 be, y7]⟩
      · exact Or.inl ⟨S, V, M, M1, f, r, s, o, orw, a, k, 0, l15_end (by omega) (tk_ok p0) c12 c11, HI, c12, c11, by omega, by omega, fun _ => rfl⟩
theorem cond_step {d : Nat} (HO : ONE tb z lim V2 g nn ro d) : CND tb z lim V2 g nn (fun S Sa Sb c => pX5_readCondF rc ro S Sa Sb c) d := by
  intro S V M f s o t P ht hb
  show (∃ S' V' M', pX5_readCondF rc ro S V V2 (nI d) = some (nI 1, S', V') ∧ _) ∨ (∃ S' V' M', pX5_readCondF rc ro S V V2 (nI d) = some (nI 0, S', V') ∧ _)
  have P' := P
  obtain ⟨_, hX, _, _, _, ho, hs, hd1, hd9⟩ := P'
  unfold pX5_readCondF
  rcases HO S V M f s o t P (by omega) with ⟨S', V', M', y1, f', s', o', M1, k, q, y2, y3, y4, y5, y6, y7, y8, y9, y10, y11, y12, y13, y14⟩ | ⟨S', V', M', y1, y2, q, y6, y7⟩
  · have l0 := y14.1
    have l2 := y14.2.1
    have kb : t = 0 ∨ oA M1 39 (t - 1) = nI 23 := by
      by_cases c : t = 0
      · exact Or.inl c
      · exact Or.inr (by rw [y13 _ (by omega)]; exact hb.resolve_left c)
    have I' : INV tb z lim g M f s o t d S' V' M' M1 f' s' s' o' false false k := ⟨by omega, y3, y6, y7, y8, y9, y10, y11, rfl, fun h => (nomatch h), ⟨kb, fun h => (nomatch h), fun h => (nomatch h)⟩, y12, y13, y14.gl⟩
    rcases cond_loop (rc := rc) hd1 hd9 HO hX hs ht fu S' V' M' M1 f' s' s' o' false false k 0 (by rw [fu_eq]; omega) (by omega) I' with ⟨S3, V3, M3, M4, f3, r3, s3, o3, orw3, a3, k3, q3, v1, v2, v3, v4, v5, v6, v7⟩ | ⟨S3, V3, M3, orw3, q3, v1, v2, v3, v4⟩
    · have h1 := v2.nots (by omega)
      obtain ⟨_, _, p0, m44, hA, HS, h4, HZ, er, ea, K, sf, sb, G⟩ := v2
      have g2 := G.2.1
      have g3 := G.2.2.1
      have b1 := b01_le orw3
      have b2 := b01_le a3
      obtain ⟨M5, j1, Z2, sf2, e39⟩ := kx_j22 HZ (by omega) (by omega) K ea
      rw [← er] at Z2
      rw [b01_f] at v1
      have fin : ∃ S2, AW S2 ∧ CS S2 (orF orw3 f3 s3) (s3 + b01 orw3) ∧ oI S2 4 = nI o3 ∧ (if orw3 = true then pX5_addStep S3 (some 11) (nI 0) (nI 0) = some S2 else S2 = S3) := by
        cases orw3 with
        | true =>
          obtain ⟨S2, w1, w2, w3, w4⟩ := c_emit hA HS (by rw [b01_t] at g3; omega) 22 0 0
          exact ⟨S2, w2, w4, w3.trans h4, by rw [if_pos rfl]; exact w1⟩
        | false => exact ⟨S3, hA, HS, h4, by rw [if_neg (by decide)]⟩
      obtain ⟨S2, A2, C2, o2, e2⟩ := fin
      refine Or.inl ⟨S2, V3, M3, ?_, orF orw3 f3 s3, s3 + b01 orw3, o3, M4, M5, q3 + q, h1, j1, by omega, fun n' => by rw [show n' + (q3 + q) = (n' + q3) + q by omega, y5, v7], p0, HZ.1, m44, v3, v4, A2, C2, o2, Z2, sf.trans sf2, fun i hi => by rw [e39]; exact sb i hi, G.fold.gr⟩
      rw [y1, e_bd]
      cases orw3 with
      | true =>
        rw [if_pos rfl] at e2
        simp (disch := omega) only [l_0, l_1, l_2, l_3, l_4, l_5, l_6, l_7, l_8, l_9, l_10, l_11, l_12, l_13, l_14, l_15, l_16, l_17, l_18, l_19, l_20, l_21, l_22, l_23, l_24, l_25, l_26, l_27, l_28, l_29, l_30, l_31, l_32, l_33, l_34, l_35, l_36, l_40, l_41, l_48, l_56, l_57, l_59, l_60, l_61, l_62, l_63, l_79, l_81, l_88, l_93, l_97, l_99, l_105, l_117, l_121, l_122, l_125, l_127, l_131, l_179, l_185, l_193, l_197, l_200, l_201, l_210, l_255, l_390, l_400, l_616, l_900, l_940, l_999, l_1000, l_1024, e_ltT, e_ltF, e_leT, e_leF, e_eqT, e_eqF, e_cl, e_in, e_gd, e_bd, e_ne, e_en, e_nlt, e_ltn, e_len, e_nle, e_nn, e_z0, e_z1, nI_add, pk_mul, e_sub, Nf_app, e_refl, e_reflN, reduceIte, ite_true_, ite_false_, v1, b01_t, e2]
      | false =>
        rw [if_neg (by decide)] at e2
        subst e2
        simp (disch := omega) only [l_0, l_1, l_2, l_3, l_4, l_5, l_6, l_7, l_8, l_9, l_10, l_11, l_12, l_13, l_14, l_15, l_16, l_17, l_18, l_19, l_20, l_21, l_22, l_23, l_24, l_25, l_26, l_27, l_28, l_29, l_30, l_31, l_32, l_33, l_34, l_35, l_36, l_40, l_41, l_48, l_56, l_57, l_59, l_60, l_61, l_62, l_63, l_79, l_81, l_88, l_93, l_97, l_99, l_105, l_117, l_121, l_122, l_125, l_127, l_131, l_179, l_185, l_193, l_197, l_200, l_201, l_210, l_255, l_390, l_400, l_616, l_900, l_940, l_999, l_1000, l_1024, e_ltT, e_ltF, e_leT, e_leF, e_eqT, e_eqF, e_cl, e_in, e_gd, e_bd, e_ne, e_en, e_nlt, e_ltn, e_len, e_nle, e_nn, e_z0, e_z1, nI_add, pk_mul, e_sub, Nf_app, e_refl, e_reflN, reduceIte, ite_true_, ite_false_, v1, b01_f]
    · rw [b01_f] at v1
      rw [y1, e_bd]
      obtain ⟨x1, x2, ⟨n', x3, x4⟩, x5⟩ := v2
      cases orw3 with
      | true =>
        obtain ⟨S2, w1, w2, w3, w4, _⟩ := c_step (w := 11) x2 x4 x3 (by omega) (nI 0) (nI 0)
        refine Or.inr ⟨S2, V3, M3, ?_, ⟨x1, w2, w4, x5⟩, q3 + q, by omega, fun n' => by rw [show n' + (q3 + q) = (n' + q3) + q by omega, y5, v4]⟩
        simp (disch := omega) only [l_0, l_1, l_2, l_3, l_4, l_5, l_6, l_7, l_8, l_9, l_10, l_11, l_12, l_13, l_14, l_15, l_16, l_17, l_18, l_19, l_20, l_21, l_22, l_23, l_24, l_25, l_26, l_27, l_28, l_29, l_30, l_31, l_32, l_33, l_34, l_35, l_36, l_40, l_41, l_48, l_56, l_57, l_59, l_60, l_61, l_62, l_63, l_79, l_81, l_88, l_93, l_97, l_99, l_105, l_117, l_121, l_122, l_125, l_127, l_131, l_179, l_185, l_193, l_197, l_200, l_201, l_210, l_255, l_390, l_400, l_616, l_900, l_940, l_999, l_1000, l_1024, e_ltT, e_ltF, e_leT, e_leF, e_eqT, e_eqF, e_cl, e_in, e_gd, e_bd, e_ne, e_en, e_nlt, e_ltn, e_len, e_nle, e_nn, e_z0, e_z1, nI_add, pk_mul, e_sub, Nf_app, e_refl, e_reflN, reduceIte, ite_true_, ite_false_, v1, b01_t, w1]
      | false =>
        refine Or.inr ⟨S3, V3, M3, ?_, ⟨x1, x2, ⟨n', x3, x4⟩, x5⟩, q3 + q, by omega, fun n' => by rw [show n' + (q3 + q) = (n' + q3) + q by omega, y5, v4]⟩
        simp (disch := omega) only [l_0, l_1, l_2, l_3, l_4, l_5, l_6, l_7, l_8, l_9, l_10, l_11, l_12, l_13, l_14, l_15, l_16, l_17, l_18, l_19, l_20, l_21, l_22, l_23, l_24, l_25, l_26, l_27, l_28, l_29, l_30, l_31, l_32, l_33, l_34, l_35, l_36, l_40, l_41, l_48, l_56, l_57, l_59, l_60, l_61, l_62, l_63, l_79, l_81, l_88, l_93, l_97, l_99, l_105, l_117, l_121, l_122, l_125, l_127, l_131, l_179, l_185, l_193, l_197, l_200, l_201, l_210, l_255, l_390, l_400, l_616, l_900, l_940, l_999, l_1000, l_1024, e_ltT, e_ltF, e_leT, e_leF, e_eqT, e_eqF, e_cl, e_in, e_gd, e_bd, e_ne, e_en, e_nlt, e_ltn, e_len, e_nle, e_nn, e_z0, e_z1, nI_add, pk_mul, e_sub, Nf_app, e_refl, e_reflN, reduceIte, ite_true_, ite_false_, v1, b01_f]
  · refine Or.inr ⟨S', V', M', ?_, y2, q, by omega, y7⟩
    have el : pX5_readCondF_l15 rc ro V2 (nI d) fu (nI 0) (nI 0) (nI 0) S' V' = some (nI 0, nI 0, S', V') := by rw [show fu = 99999 + 1 from rfl]; exact l15_stop
    rw [y1, e_bd]
    simp (disch := omega) only [l_0, l_1, l_2, l_3, l_4, l_5, l_6, l_7, l_8, l_9, l_10, l_11, l_12, l_13, l_14, l_15, l_16, l_17, l_18, l_19, l_20, l_21, l_22, l_23, l_24, l_25, l_26, l_27, l_28, l_29, l_30, l_31, l_32, l_33, l_34, l_35, l_36, l_40, l_41, l_48, l_56, l_57, l_59, l_60, l_61, l_62, l_63, l_79, l_81, l_88, l_93, l_97, l_99, l_105, l_117, l_121, l_122, l_125, l_127, l_131, l_179, l_185, l_193, l_197, l_200, l_201, l_210, l_255, l_390, l_400, l_616, l_900, l_940, l_999, l_1000, l_1024, e_ltT, e_ltF, e_leT, e_leF, e_eqT, e_eqF, e_cl, e_in, e_gd, e_bd, e_ne, e_en, e_nlt, e_ltn, e_len, e_nle, e_nn, e_z0, e_z1, nI_add, pk_mul, e_sub, Nf_app, e_refl, e_reflN, reduceIte, ite_true_, ite_false_, el]
theorem rd_all (hQ : WQ g) (hq : QR V2 g) : ∀ n d, 1 ≤ d → d ≤ 9 → (2 * (9 - d) + 1 ≤ n → ONE tb z lim V2 g nn (pX5_rd n).2 d) ∧ (2 * (9 - d) + 2 ≤ n → CND tb z lim V2 g nn (pX5_rd n).1 d)
  | 0, d, h1, h9 => ⟨fun h => by omega, fun h => by omega⟩
  | n + 1, d, h1, h9 => by
    refine ⟨fun h => ?_, fun h => ?_⟩
    · rw [pX5_rd]
      exact one_step hQ hq (fun h8 => (rd_all hQ hq n (d + 1) (by omega) (by omega)).2 (by omega)) (fun h8 => (rd_all hQ hq n (d + 1) (by omega) (by omega)).1 (by omega))
    · rw [pX5_rd]
      exact cond_step ((rd_all hQ hq n d h1 h9).1 (by omega))
end
