/-! the new quarter -/
theorem up_fun {α : Type} (f : Nat → α) (k : Nat) (v : α) (h : f k = v) : va_up f k v = f := funext fun j => by
  rw [up_app]; split
  · next e => rw [e, h]
  · rfl
def cz (h : Nat → Nat) (n : Nat) : Nat → Nat := fun k => if k < n then 0 else h k
theorem cz_s (h : Nat → Nat) (n : Nat) : va_up (cz h n) n 0 = cz h (n + 1) := funext fun k => by
  unfold cz
  rw [up_app]
  by_cases e : k = n
  · rw [if_pos e, if_pos (by omega)]
  · rw [if_neg e]
    by_cases c : k < n
    · rw [if_pos c, if_pos (by omega)]
    · rw [if_neg c, if_neg (by omega)]
theorem cz_0 (h : Nat → Nat) : cz h 0 = h := funext fun k => if_neg (by omega)
section
variable {N : Nat} {tb : Nat → Nat} {V M D T : Ob} {z lim : Nat} {h nn g : Nat → Nat} {b : Bool}
theorem r_clears_l (M : Ob) (h : Nat → Nat) : ∀ (f k : Nat), k ≤ 121 → 121 - k < f → pX11_clears_l2 f (nI k) (sA M 7 (Nf (cz h k))) = some (sA M 7 (Nf (cz h 121)))
  | 0, _, _, h => by omega
  | f + 1, k, h1, h2 => by
    rw [pX11_clears_l2]
    by_cases c : k = 121
    · subst c; simp (disch := omega) only [l_0, l_1, l_2, l_3, l_4, l_5, l_6, l_7, l_8, l_9, l_10, l_11, l_12, l_13, l_14, l_15, l_16, l_17, l_18, l_19, l_20, l_21, l_22, l_23, l_24, l_25, l_26, l_27, l_28, l_29, l_30, l_31, l_32, l_33, l_34, l_35, l_36, l_40, l_41, l_48, l_56, l_57, l_59, l_60, l_61, l_62, l_63, l_79, l_81, l_88, l_93, l_97, l_99, l_105, l_117, l_121, l_122, l_125, l_127, l_131, l_179, l_185, l_193, l_197, l_200, l_201, l_210, l_255, l_390, l_400, l_616, l_900, l_940, l_999, l_1000, l_1024, e_ltT, e_ltF, e_leT, e_leF, e_eqT, e_eqF, e_cl, e_in, e_gd, e_bd, e_ne, e_en, e_nlt, e_ltn, e_len, e_nle, e_nn, e_z0, e_z1, nI_add, pk_mul, e_sub, Nf_app, e_refl, e_reflN, reduceIte, ite_true_, ite_false_, oA_self]
    · have ih := r_clears_l M h f (k + 1) (by omega) (by omega)
      simp (disch := omega) only [l_0, l_1, l_2, l_3, l_4, l_5, l_6, l_7, l_8, l_9, l_10, l_11, l_12, l_13, l_14, l_15, l_16, l_17, l_18, l_19, l_20, l_21, l_22, l_23, l_24, l_25, l_26, l_27, l_28, l_29, l_30, l_31, l_32, l_33, l_34, l_35, l_36, l_40, l_41, l_48, l_56, l_57, l_59, l_60, l_61, l_62, l_63, l_79, l_81, l_88, l_93, l_97, l_99, l_105, l_117, l_121, l_122, l_125, l_127, l_131, l_179, l_185, l_193, l_197, l_200, l_201, l_210, l_255, l_390, l_400, l_616, l_900, l_940, l_999, l_1000, l_1024, e_ltT, e_ltF, e_leT, e_leF, e_eqT, e_eqF, e_cl, e_in, e_gd, e_bd, e_ne, e_en, e_nlt, e_ltn, e_len, e_nle, e_nn, e_z0, e_z1, nI_add, pk_mul, e_sub, Nf_app, e_refl, e_reflN, reduceIte, ite_true_, ite_false_, oI_sI, oI_sL, oI_sW, oI_sA, oI_sJ, oI_sX, oL_sI, oL_sL, oL_sW, oL_sA, oL_sJ, oL_sX, oW_sI, oW_sL, oW_sW, oW_sA, oW_sJ, oW_sX, oA_sI, oA_sL, oA_sW, oA_sA, oA_sJ, oA_sX, oJ_sI, oJ_sL, oJ_sW, oJ_sA, oJ_sJ, oJ_sX, oX_sI, oX_sL, oX_sW, oX_sA, oX_sJ, oX_sX, Nat.reduceEqDiff, n10, n01, uv_eq, uv_ne, up_Nf, sA_sA, oA_self, cz_s, ih]
theorem r_clears (h7 : oA M 7 = Nf h) : pX11_clears M = some (sA M 7 (Nf (va_up (cz h 121) 4 9))) := by
  have h := r_clears_l M h fu 0 (by omega) (by rw [fu_eq]; omega)
  rw [cz_0, ← h7, sA_self] at h
  unfold pX11_clears
  simp (disch := omega) only [l_0, l_1, l_2, l_3, l_4, l_5, l_6, l_7, l_8, l_9, l_10, l_11, l_12, l_13, l_14, l_15, l_16, l_17, l_18, l_19, l_20, l_21, l_22, l_23, l_24, l_25, l_26, l_27, l_28, l_29, l_30, l_31, l_32, l_33, l_34, l_35, l_36, l_40, l_41, l_48, l_56, l_57, l_59, l_60, l_61, l_62, l_63, l_79, l_81, l_88, l_93, l_97, l_99, l_105, l_117, l_121, l_122, l_125, l_127, l_131, l_179, l_185, l_193, l_197, l_200, l_201, l_210, l_255, l_390, l_400, l_616, l_900, l_940, l_999, l_1000, l_1024, e_ltT, e_ltF, e_leT, e_leF, e_eqT, e_eqF, e_cl, e_in, e_gd, e_bd, e_ne, e_en, e_nlt, e_ltn, e_len, e_nle, e_nn, e_z0, e_z1, nI_add, pk_mul, e_sub, Nf_app, e_refl, e_reflN, reduceIte, ite_true_, ite_false_, oI_sI, oI_sL, oI_sW, oI_sA, oI_sJ, oI_sX, oL_sI, oL_sL, oL_sW, oL_sA, oL_sJ, oL_sX, oW_sI, oW_sL, oW_sW, oW_sA, oW_sJ, oW_sX, oA_sI, oA_sL, oA_sW, oA_sA, oA_sJ, oA_sX, oJ_sI, oJ_sL, oJ_sW, oJ_sA, oJ_sJ, oJ_sX, oX_sI, oX_sL, oX_sW, oX_sA, oX_sJ, oX_sX, Nat.reduceEqDiff, n10, n01, uv_eq, uv_ne, up_Nf, sA_sA, h, oA_self]
theorem c_clear : okS (pX6_clear T) (fun T' => (∀ p, p < 6 → oA T' 1 p = nI 0 ∧ oA T' 2 p = nI 0) ∧ (∀ t, t < 8 → oA T' 3 t = nI 0 ∧ oA T' 4 t = nI 0) ∧ (∀ t, t < 4 → oA T' 5 t = nI 0 ∧ oA T' 6 t = nI 0) ∧ oI T' 7 = nI 0 ∧ oI T' 8 = nI 0 ∧ oI T' 9 = nI 0 ∧ oI T' 10 = nI 0 ∧ oI T' 11 = nI 0) := by
  have l1 : ∀ (f k : Nat) (S : Ob), k ≤ 6 → 6 - k < f → (∀ p, p < k → oA S 1 p = nI 0 ∧ oA S 2 p = nI 0) → okS (pX6_clear_l2 f (nI k) S) (fun S' => (∀ p, p < 6 → oA S' 1 p = nI 0 ∧ oA S' 2 p = nI 0)) := by
    intro f
    induction f with
    | zero => intro k S h1 h2; omega
    | succ f ih =>
      intro k S h1 h2 H
      rw [pX6_clear_l2]
      by_cases c : k = 6
      · subst c; simp (disch := omega) only [l_0, l_1, l_2, l_3, l_4, l_5, l_6, l_7, l_8, l_9, l_10, l_11, l_12, l_13, l_14, l_15, l_16, l_17, l_18, l_19, l_20, l_21, l_22, l_23, l_24, l_25, l_26, l_27, l_28, l_29, l_30, l_31, l_32, l_33, l_34, l_35, l_36, l_40, l_41, l_48, l_56, l_57, l_59, l_60, l_61, l_62, l_63, l_79, l_81, l_88, l_93, l_97, l_99, l_105, l_117, l_121, l_122, l_125, l_127, l_131, l_179, l_185, l_193, l_197, l_200, l_201, l_210, l_255, l_390, l_400, l_616, l_900, l_940, l_999, l_1000, l_1024, e_ltT, e_ltF, e_leT, e_leF, e_eqT, e_eqF, e_cl, e_in, e_gd, e_bd, e_ne, e_en, e_nlt, e_ltn, e_len, e_nle, e_nn, e_z0, e_z1, nI_add, pk_mul, e_sub, Nf_app, e_refl, e_reflN, reduceIte, ite_true_, ite_false_, l_0]; exact okS_some H
      · have := ih (k + 1) (sA (sA S 1 (va_up (oA S 1) k (nI 0))) 2 (va_up (oA S 2) k (nI 0))) (by omega) (by omega) (fun p hp => by
          simp (disch := omega) only [l_0, l_1, l_2, l_3, l_4, l_5, l_6, l_7, l_8, l_9, l_10, l_11, l_12, l_13, l_14, l_15, l_16, l_17, l_18, l_19, l_20, l_21, l_22, l_23, l_24, l_25, l_26, l_27, l_28, l_29, l_30, l_31, l_32, l_33, l_34, l_35, l_36, l_40, l_41, l_48, l_56, l_57, l_59, l_60, l_61, l_62, l_63, l_79, l_81, l_88, l_93, l_97, l_99, l_105, l_117, l_121, l_122, l_125, l_127, l_131, l_179, l_185, l_193, l_197, l_200, l_201, l_210, l_255, l_390, l_400, l_616, l_900, l_940, l_999, l_1000, l_1024, e_ltT, e_ltF, e_leT, e_leF, e_eqT, e_eqF, e_cl, e_in, e_gd, e_bd, e_ne, e_en, e_nlt, e_ltn, e_len, e_nle, e_nn, e_z0, e_z1, nI_add, pk_mul, e_sub, Nf_app, e_refl, e_reflN, reduceIte, ite_true_, ite_false_, oI_sI, oI_sL, oI_sW, oI_sA, oI_sJ, oI_sX, oL_sI, oL_sL, oL_sW, oL_sA, oL_sJ, oL_sX, oW_sI, oW_sL, oW_sW, oW_sA, oW_sJ, oW_sX, oA_sI, oA_sL, oA_sW, oA_sA, oA_sJ, oA_sX, oJ_sI, oJ_sL, oJ_sW, oJ_sA, oJ_sJ, oJ_sX, oX_sI, oX_sL, oX_sW, oX_sA, oX_sJ, oX_sX, Nat.reduceEqDiff, n10, n01, l_0]
          by_cases e : p = k
          · rw [uv_eq e, uv_eq e]; exact ⟨rfl, rfl⟩
          · rw [uv_ne e, uv_ne e]; exact H p (by omega))
        simp (disch := omega) only [l_0, l_1, l_2, l_3, l_4, l_5, l_6, l_7, l_8, l_9, l_10, l_11, l_12, l_13, l_14, l_15, l_16, l_17, l_18, l_19, l_20, l_21, l_22, l_23, l_24, l_25, l_26, l_27, l_28, l_29, l_30, l_31, l_32, l_33, l_34, l_35, l_36, l_40, l_41, l_48, l_56, l_57, l_59, l_60, l_61, l_62, l_63, l_79, l_81, l_88, l_93, l_97, l_99, l_105, l_117, l_121, l_122, l_125, l_127, l_131, l_179, l_185, l_193, l_197, l_200, l_201, l_210, l_255, l_390, l_400, l_616, l_900, l_940, l_999, l_1000, l_1024, e_ltT, e_ltF, e_leT, e_leF, e_eqT, e_eqF, e_cl, e_in, e_gd, e_bd, e_ne, e_en, e_nlt, e_ltn, e_len, e_nle, e_nn, e_z0, e_z1, nI_add, pk_mul, e_sub, Nf_app, e_refl, e_reflN, reduceIte, ite_true_, ite_false_, oI_sI, oI_sL, oI_sW, oI_sA, oI_sJ, oI_sX, oL_sI, oL_sL, oL_sW, oL_sA, oL_sJ, oL_sX, oW_sI, oW_sL, oW_sW, oW_sA, oW_sJ, oW_sX, oA_sI, oA_sL, oA_sW, oA_sA, oA_sJ, oA_sX, oJ_sI, oJ_sL, oJ_sW, oJ_sA, oJ_sJ, oJ_sX, oX_sI, oX_sL, oX_sW, oX_sA, oX_sJ, oX_sX, Nat.reduceEqDiff, n10, n01, l_0]
        exact this
  have l2 : ∀ (f k : Nat) (S : Ob), k ≤ 8 → 8 - k < f → (∀ p, p < 6 → oA S 1 p = nI 0 ∧ oA S 2 p = nI 0) → (∀ p, p < k → oA S 3 p = nI 0 ∧ oA S 4 p = nI 0) → okS (pX6_clear_l30 f (nI k) S) (fun S' => (∀ p, p < 6 → oA S' 1 p = nI 0 ∧ oA S' 2 p = nI 0) ∧ (∀ p, p < 8 → oA S' 3 p = nI 0 ∧ oA S' 4 p = nI 0)) := by
    intro f
    induction f with
    | zero => intro k S h1 h2; omega
    | succ f ih =>
      intro k S h1 h2 H0 H
      rw [pX6_clear_l30]
      by_cases c : k = 8
      · subst c; simp (disch := omega) only [l_0, l_1, l_2, l_3, l_4, l_5, l_6, l_7, l_8, l_9, l_10, l_11, l_12, l_13, l_14, l_15, l_16, l_17, l_18, l_19, l_20, l_21, l_22, l_23, l_24, l_25, l_26, l_27, l_28, l_29, l_30, l_31, l_32, l_33, l_34, l_35, l_36, l_40, l_41, l_48, l_56, l_57, l_59, l_60, l_61, l_62, l_63, l_79, l_81, l_88, l_93, l_97, l_99, l_105, l_117, l_121, l_122, l_125, l_127, l_131, l_179, l_185, l_193, l_197, l_200, l_201, l_210, l_255, l_390, l_400, l_616, l_900, l_940, l_999, l_1000, l_1024, e_ltT, e_ltF, e_leT, e_leF, e_eqT, e_eqF, e_cl, e_in, e_gd, e_bd, e_ne, e_en, e_nlt, e_ltn, e_len, e_nle, e_nn, e_z0, e_z1, nI_add, pk_mul, e_sub, Nf_app, e_refl, e_reflN, reduceIte, ite_true_, ite_false_, l_0]; exact okS_some ⟨H0, H⟩
      · have := ih (k + 1) (sA (sA S 3 (va_up (oA S 3) k (nI 0))) 4 (va_up (oA S 4) k (nI 0))) (by omega) (by omega) (fun p hp => by simp (disch := omega) only [l_0, l_1, l_2, l_3, l_4, l_5, l_6, l_7, l_8, l_9, l_10, l_11, l_12, l_13, l_14, l_15, l_16, l_17, l_18, l_19, l_20, l_21, l_22, l_23, l_24, l_25, l_26, l_27, l_28, l_29, l_30, l_31, l_32, l_33, l_34, l_35, l_36, l_40, l_41, l_48, l_56, l_57, l_59, l_60, l_61, l_62, l_63, l_79, l_81, l_88, l_93, l_97, l_99, l_105, l_117, l_121, l_122, l_125, l_127, l_131, l_179, l_185, l_193, l_197, l_200, l_201, l_210, l_255, l_390, l_400, l_616, l_900, l_940, l_999, l_1000, l_1024, e_ltT, e_ltF, e_leT, e_leF, e_eqT, e_eqF, e_cl, e_in, e_gd, e_bd, e_ne, e_en, e_nlt, e_ltn, e_len, e_nle, e_nn, e_z0, e_z1, nI_add, pk_mul, e_sub, Nf_app, e_refl, e_reflN, reduceIte, ite_true_, ite_false_, oI_sI, oI_sL, oI_sW, oI_sA, oI_sJ, oI_sX, oL_sI, oL_sL, oL_sW, oL_sA, oL_sJ, oL_sX, oW_sI, oW_sL, oW_sW, oW_sA, oW_sJ, oW_sX, oA_sI, oA_sL, oA_sW, oA_sA, oA_sJ, oA_sX, oJ_sI, oJ_sL, oJ_sW, oJ_sA, oJ_sJ, oJ_sX, oX_sI, oX_sL, oX_sW, oX_sA, oX_sJ, oX_sX, Nat.reduceEqDiff, n10, n01, l_0]; exact H0 p hp) (fun p hp => by
          simp (disch := omega) only [l_0, l_1, l_2, l_3, l_4, l_5, l_6, l_7, l_8, l_9, l_10, l_11, l_12, l_13, l_14, l_15, l_16, l_17, l_18, l_19, l_20, l_21, l_22, l_23, l_24, l_25, l_26, l_27, l_28, l_29, l_30, l_31, l_32, l_33, l_34, l_35, l_36, l_40, l_41, l_48, l_56, l_57, l_59, l_60, l_61, l_62, l_63, l_79, l_81, l_88, l_93, l_97, l_99, l_105, l_117, l_121, l_122, l_125, l_127, l_131, l_179, l_185, l_193, l_197, l_200, l_201, l_210, l_255, l_390, l_400, l_616, l_900, l_940, l_999, l_1000, l_1024, e_ltT, e_ltF, e_leT, e_leF, e_eqT, e_eqF, e_cl, e_in, e_gd, e_bd, e_ne, e_en, e_nlt, e_ltn, e_len, e_nle, e_nn, e_z0, e_z1, nI_add, pk_mul, e_sub, Nf_app, e_refl, e_reflN, reduceIte, ite_true_, ite_false_, oI_sI, oI_sL, oI_sW, oI_sA, oI_sJ, oI_sX, oL_sI, oL_sL, oL_sW, oL_sA, oL_sJ, oL_sX, oW_sI, oW_sL, oW_sW, oW_sA, oW_sJ, oW_sX, oA_sI, oA_sL, oA_sW, oA_sA, oA_sJ, oA_sX, oJ_sI, oJ_sL, oJ_sW, oJ_sA, oJ_sJ, oJ_sX, oX_sI, oX_sL, oX_sW, oX_sA, oX_sJ, oX_sX, Nat.reduceEqDiff, n10, n01, l_0]
          by_cases e : p = k
          · rw [uv_eq e, uv_eq e]; exact ⟨rfl, rfl⟩
          · rw [uv_ne e, uv_ne e]; exact H p (by omega))
        simp (disch := omega) only [l_0, l_1, l_2, l_3, l_4, l_5, l_6, l_7, l_8, l_9, l_10, l_11, l_12, l_13, l_14, l_15, l_16, l_17, l_18, l_19, l_20, l_21, l_22, l_23, l_24, l_25, l_26, l_27, l_28, l_29, l_30, l_31, l_32, l_33, l_34, l_35, l_36, l_40, l_41, l_48, l_56, l_57, l_59, l_60, l_61, l_62, l_63, l_79, l_81, l_88, l_93, l_97, l_99, l_105, l_117, l_121, l_122, l_125, l_127, l_131, l_179, l_185, l_193, l_197, l_200, l_201, l_210, l_255, l_390, l_400, l_616, l_900, l_940, l_999, l_1000, l_1024, e_ltT, e_ltF, e_leT, e_leF, e_eqT, e_eqF, e_cl, e_in, e_gd, e_bd, e_ne, e_en, e_nlt, e_ltn, e_len, e_nle, e_nn, e_z0, e_z1, nI_add, pk_mul, e_sub, Nf_app, e_refl, e_reflN, reduceIte, ite_true_, ite_false_, oI_sI, oI_sL, oI_sW, oI_sA, oI_sJ, oI_sX, oL_sI, oL_sL, oL_sW, oL_sA, oL_sJ, oL_sX, oW_sI, oW_sL, oW_sW, oW_sA, oW_sJ, oW_sX, oA_sI, oA_sL, oA_sW, oA_sA, oA_sJ, oA_sX, oJ_sI, oJ_sL, oJ_sW, oJ_sA, oJ_sJ, oJ_sX, oX_sI, oX_sL, oX_sW, oX_sA, oX_sJ, oX_sX, Nat.reduceEqDiff, n10, n01, l_0]
        exact this
  have l3 : ∀ (f k : Nat) (S : Ob), k ≤ 4 → 4 - k < f → (∀ p, p < 6 → oA S 1 p = nI 0 ∧ oA S 2 p = nI 0) → (∀ p, p < 8 → oA S 3 p = nI 0 ∧ oA S 4 p = nI 0) → (∀ p, p < k → oA S 5 p = nI 0 ∧ oA S 6 p = nI 0) → okS (pX6_clear_l58 f (nI k) S) (fun S' => (∀ p, p < 6 → oA S' 1 p = nI 0 ∧ oA S' 2 p = nI 0) ∧ (∀ p, p < 8 → oA S' 3 p = nI 0 ∧ oA S' 4 p = nI 0) ∧ (∀ p, p < 4 → oA S' 5 p = nI 0 ∧ oA S' 6 p = nI 0)) := by
    intro f
    induction f with
    | zero => intro k S h1 h2; omega
    | succ f ih =>
      intro k S h1 h2 H0 H1 H
      rw [pX6_clear_l58]
      by_cases c : k = 4
      · subst c; simp (disch := omega) only [l_0, l_1, l_2, l_3, l_4, l_5, l_6, l_7, l_8, l_9, l_10, l_11, l_12, l_13, l_14, l_15, l_16, l_17, l_18, l_19, l_20, l_21, l_22, l_23, l_24, l_25, l_26, l_27, l_28, l_29, l_30, l_31, l_32, l_33, l_34, l_35, l_36, l_40, l_41, l_48, l_56, l_57, l_59, l_60, l_61, l_62, l_63, l_79, l_81, l_88, l_93, l_97, l_99, l_105, l_117, l_121, l_122, l_125, l_127, l_131, l_179, l_185, l_193, l_197, l_200, l_201, l_210, l_255, l_390, l_400, l_616, l_900, l_940, l_999, l_1000, l_1024, e_ltT, e_ltF, e_leT, e_leF, e_eqT, e_eqF, e_cl, e_in, e_gd, e_bd, e_ne, e_en, e_nlt, e_ltn, e_len, e_nle, e_nn, e_z0, e_z1, nI_add, pk_mul, e_sub, Nf_app, e_refl, e_reflN, reduceIte, ite_true_, ite_false_, l_0]; exact okS_some ⟨H0, H1, H⟩
      · have := ih (k + 1) (sA (sA S 5 (va_up (oA S 5) k (nI 0))) 6 (va_up (oA S 6) k (nI 0))) (by omega) (by omega) (fun p hp => by simp (disch := omega) only [l_0, l_1, l_2, l_3, l_4, l_5, l_6, l_7, l_8, l_9, l_10, l_11, l_12, l_13, l_14, l_15, l_16, l_17, l_18, l_19, l_20, l_21, l_22, l_23, l_24, l_25, l_26, l_27, l_28, l_29, l_30, l_31, l_32, l_33, l_34, l_35, l_36, l_40, l_41, l_48, l_56, l_57, l_59, l_60, l_61, l_62, l_63, l_79, l_81, l_88, l_93, l_97, l_99, l_105, l_117, l_121, l_122, l_125, l_127, l_131, l_179, l_185, l_193, l_197, l_200, l_201, l_210, l_255, l_390, l_400, l_616, l_900, l_940, l_999, l_1000, l_1024, e_ltT, e_ltF, e_leT, e_leF, e_eqT, e_eqF, e_cl, e_in, e_gd, e_bd, e_ne, e_en, e_nlt, e_ltn, e_len, e_nle, e_nn, e_z0, e_z1, nI_add, pk_mul, e_sub, Nf_app, e_refl, e_reflN, reduceIte, ite_true_, ite_false_, oI_sI, oI_sL, oI_sW, oI_sA, oI_sJ, oI_sX, oL_sI, oL_sL, oL_sW, oL_sA, oL_sJ, oL_sX, oW_sI, oW_sL, oW_sW, oW_sA, oW_sJ, oW_sX, oA_sI, oA_sL, oA_sW, oA_sA, oA_sJ, oA_sX, oJ_sI, oJ_sL, oJ_sW, oJ_sA, oJ_sJ, oJ_sX, oX_sI, oX_sL, oX_sW, oX_sA, oX_sJ, oX_sX, Nat.reduceEqDiff, n10, n01, l_0]; exact H0 p hp) (fun p hp => by simp (disch := omega) only [l_0, l_1, l_2, l_3, l_4, l_5, l_6, l_7, l_8, l_9, l_10, l_11, l_12, l_13, l_14, l_15, l_16, l_17, l_18, l_19, l_20, l_21, l_22, l_23, l_24, l_25, l_26, l_27, l_28, l_29, l_30, l_31, l_32, l_33, l_34, l_35, l_36, l_40, l_41, l_48, l_56, l_57, l_59, l_60, l_61, l_62, l_63, l_79, l_81, l_88, l_93, l_97, l_99, l_105, l_117, l_121, l_122, l_125, l_127, l_131, l_179, l_185, l_193, l_197, l_200, l_201, l_210, l_255, l_390, l_400, l_616, l_900, l_940, l_999, l_1000, l_1024, e_ltT, e_ltF, e_leT, e_leF, e_eqT, e_eqF, e_cl, e_in, e_gd, e_bd, e_ne, e_en, e_nlt, e_ltn, e_len, e_nle, e_nn, e_z0, e_z1, nI_add, pk_mul, e_sub, Nf_app, e_refl, e_reflN, reduceIte, ite_true_, ite_false_, oI_sI, oI_sL, oI_sW, oI_sA, oI_sJ, oI_sX, oL_sI, oL_sL, oL_sW, oL_sA, oL_sJ, oL_sX, oW_sI, oW_sL, oW_sW, oW_sA, oW_sJ, oW_sX, oA_sI, oA_sL, oA_sW, oA_sA, oA_sJ, oA_sX, oJ_sI, oJ_sL, oJ_sW, oJ_sA, oJ_sJ, oJ_sX, oX_sI, oX_sL, oX_sW, oX_sA, oX_sJ, oX_sX, Nat.reduceEqDiff, n10, n01, l_0]; exact H1 p hp) (fun p hp => by
          simp (disch := omega) only [l_0, l_1, l_2, l_3, l_4, l_5, l_6, l_7, l_8, l_9, l_10, l_11, l_12, l_13, l_14, l_15, l_16, l_17, l_18, l_19, l_20, l_21, l_22, l_23, l_24, l_25, l_26, l_27, l_28, l_29, l_30, l_31, l_32, l_33, l_34, l_35, l_36, l_40, l_41, l_48, l_56, l_57, l_59, l_60, l_61, l_62, l_63, l_79, l_81, l_88, l_93, l_97, l_99, l_105, l_117, l_121, l_122, l_125, l_127, l_131, l_179, l_185, l_193, l_197, l_200, l_201, l_210, l_255, l_390, l_400, l_616, l_900, l_940, l_999, l_1000, l_1024, e_ltT, e_ltF, e_leT, e_leF, e_eqT, e_eqF, e_cl, e_in, e_gd, e_bd, e_ne, e_en, e_nlt, e_ltn, e_len, e_nle, e_nn, e_z0, e_z1, nI_add, pk_mul, e_sub, Nf_app, e_refl, e_reflN, reduceIte, ite_true_, ite_false_, oI_sI, oI_sL, oI_sW, oI_sA, oI_sJ, oI_sX, oL_sI, oL_sL, oL_sW, oL_sA, oL_sJ, oL_sX, oW_sI, oW_sL, oW_sW, oW_sA, oW_sJ, oW_sX, oA_sI, oA_sL, oA_sW, oA_sA, oA_sJ, oA_sX, oJ_sI, oJ_sL, oJ_sW, oJ_sA, oJ_sJ, oJ_sX, oX_sI, oX_sL, oX_sW, oX_sA, oX_sJ, oX_sX, Nat.reduceEqDiff, n10, n01, l_0]
          by_cases e : p = k
          · rw [uv_eq e, uv_eq e]; exact ⟨rfl, rfl⟩
          · rw [uv_ne e, uv_ne e]; exact H p (by omega))
        simp (disch := omega) only [l_0, l_1, l_2, l_3, l_4, l_5, l_6, l_7, l_8, l_9, l_10, l_11, l_12, l_13, l_14, l_15, l_16, l_17, l_18, l_19, l_20, l_21, l_22, l_23, l_24, l_25, l_26, l_27, l_28, l_29, l_30, l_31, l_32, l_33, l_34, l_35, l_36, l_40, l_41, l_48, l_56, l_57, l_59, l_60, l_61, l_62, l_63, l_79, l_81, l_88, l_93, l_97, l_99, l_105, l_117, l_121, l_122, l_125, l_127, l_131, l_179, l_185, l_193, l_197, l_200, l_201, l_210, l_255, l_390, l_400, l_616, l_900, l_940, l_999, l_1000, l_1024, e_ltT, e_ltF, e_leT, e_leF, e_eqT, e_eqF, e_cl, e_in, e_gd, e_bd, e_ne, e_en, e_nlt, e_ltn, e_len, e_nle, e_nn, e_z0, e_z1, nI_add, pk_mul, e_sub, Nf_app, e_refl, e_reflN, reduceIte, ite_true_, ite_false_, oI_sI, oI_sL, oI_sW, oI_sA, oI_sJ, oI_sX, oL_sI, oL_sL, oL_sW, oL_sA, oL_sJ, oL_sX, oW_sI, oW_sL, oW_sW, oW_sA, oW_sJ, oW_sX, oA_sI, oA_sL, oA_sW, oA_sA, oA_sJ, oA_sX, oJ_sI, oJ_sL, oJ_sW, oJ_sA, oJ_sJ, oJ_sX, oX_sI, oX_sL, oX_sW, oX_sA, oX_sJ, oX_sX, Nat.reduceEqDiff, n10, n01, l_0]
        exact this
  obtain ⟨S1, a1, a2⟩ := l1 fu 0 T (by omega) (by rw [fu_eq]; omega) (fun p hp => by omega)
  obtain ⟨S2, b1, b2, b3⟩ := l2 fu 0 S1 (by omega) (by rw [fu_eq]; omega) a2 (fun p hp => by omega)
  obtain ⟨S3, c1, c2, c3, c4⟩ := l3 fu 0 S2 (by omega) (by rw [fu_eq]; omega) b2 b3 (fun p hp => by omega)
  unfold pX6_clear
  simp only [l_0, a1, e_bd, b1, c1]
  refine okS_some ⟨c2, c3, c4, ?_, ?_, ?_, ?_, ?_⟩ <;> simp (disch := omega) only [l_0, l_1, l_2, l_3, l_4, l_5, l_6, l_7, l_8, l_9, l_10, l_11, l_12, l_13, l_14, l_15, l_16, l_17, l_18, l_19, l_20, l_21, l_22, l_23, l_24, l_25, l_26, l_27, l_28, l_29, l_30, l_31, l_32, l_33, l_34, l_35, l_36, l_40, l_41, l_48, l_56, l_57, l_59, l_60, l_61, l_62, l_63, l_79, l_81, l_88, l_93, l_97, l_99, l_105, l_117, l_121, l_122, l_125, l_127, l_131, l_179, l_185, l_193, l_197, l_200, l_201, l_210, l_255, l_390, l_400, l_616, l_900, l_940, l_999, l_1000, l_1024, e_ltT, e_ltF, e_leT, e_leF, e_eqT, e_eqF, e_cl, e_in, e_gd, e_bd, e_ne, e_en, e_nlt, e_ltn, e_len, e_nle, e_nn, e_z0, e_z1, nI_add, pk_mul, e_sub, Nf_app, e_refl, e_reflN, reduceIte, ite_true_, ite_false_, oI_sI, oI_sL, oI_sW, oI_sA, oI_sJ, oI_sX, oL_sI, oL_sL, oL_sW, oL_sA, oL_sJ, oL_sX, oW_sI, oW_sL, oW_sW, oW_sA, oW_sJ, oW_sX, oA_sI, oA_sL, oA_sW, oA_sA, oA_sJ, oA_sX, oJ_sI, oJ_sL, oJ_sW, oJ_sA, oJ_sJ, oJ_sX, oX_sI, oX_sL, oX_sW, oX_sA, oX_sJ, oX_sX, Nat.reduceEqDiff, n10, n01, l_0]
/-- the class's copy of a quarter -/
def qc0 (Sa X : Ob) : Ob := sI X 0 (oI Sa 0)
theorem qc0_I (Sa X : Ob) (k : Nat) : oI (qc0 Sa X) k = if k = 0 then oI Sa 0 else oI X k := rfl
theorem qc0_A (Sa X : Ob) (k : Nat) : oA (qc0 Sa X) k = oA X k := rfl
theorem qc0_J (Sa X : Ob) (k : Nat) : oJ (qc0 Sa X) k = oJ X k := rfl
def qc1 (Sa X : Ob) : Ob := sJ X 1 (va_cpy (oJ Sa 1) (oJ X 1) 0 0 8)
theorem qc1_I (Sa X : Ob) (k : Nat) : oI (qc1 Sa X) k = oI X k := rfl
theorem qc1_A (Sa X : Ob) (k : Nat) : oA (qc1 Sa X) k = oA X k := rfl
theorem qc1_J (Sa X : Ob) (k : Nat) : oJ (qc1 Sa X) k = if k = 1 then va_cpy (oJ Sa 1) (oJ X 1) 0 0 8 else oJ X k := rfl
def qc2 (Sa X : Ob) : Ob := sA X 2 (va_cpy (oA Sa 2) (oA X 2) 0 0 8)
theorem qc2_I (Sa X : Ob) (k : Nat) : oI (qc2 Sa X) k = oI X k := rfl
theorem qc2_A (Sa X : Ob) (k : Nat) : oA (qc2 Sa X) k = if k = 2 then va_cpy (oA Sa 2) (oA X 2) 0 0 8 else oA X k := rfl
theorem qc2_J (Sa X : Ob) (k : Nat) : oJ (qc2 Sa X) k = oJ X k := rfl
def qc3 (Sa X : Ob) : Ob := sA X 3 (va_cpy (oA Sa 3) (oA X 3) 0 0 8)
theorem qc3_I (Sa X : Ob) (k : Nat) : oI (qc3 Sa X) k = oI X k := rfl
theorem qc3_A (Sa X : Ob) (k : Nat) : oA (qc3 Sa X) k = if k = 3 then va_cpy (oA Sa 3) (oA X 3) 0 0 8 else oA X k := rfl
theorem qc3_J (Sa X : Ob) (k : Nat) : oJ (qc3 Sa X) k = oJ X k := rfl
def qc4 (Sa X : Ob) : Ob := sI X 4 (oI Sa 4)
theorem qc4_I (Sa X : Ob) (k : Nat) : oI (qc4 Sa X) k = if k = 4 then oI Sa 4 else oI X k := rfl
theorem qc4_A (Sa X : Ob) (k : Nat) : oA (qc4 Sa X) k = oA X k := rfl
theorem qc4_J (Sa X : Ob) (k : Nat) : oJ (qc4 Sa X) k = oJ X k := rfl
def qc5 (Sa X : Ob) : Ob := sJ X 5 (va_cpy (oJ Sa 5) (oJ X 5) 0 0 6)
theorem qc5_I (Sa X : Ob) (k : Nat) : oI (qc5 Sa X) k = oI X k := rfl
theorem qc5_A (Sa X : Ob) (k : Nat) : oA (qc5 Sa X) k = oA X k := rfl
theorem qc5_J (Sa X : Ob) (k : Nat) : oJ (qc5 Sa X) k = if k = 5 then va_cpy (oJ Sa 5) (oJ X 5) 0 0 6 else oJ X k := rfl
def qc6 (Sa X : Ob) : Ob := sA X 6 (va_cpy (oA Sa 6) (oA X 6) 0 0 6)
theorem qc6_I (Sa X : Ob) (k : Nat) : oI (qc6 Sa X) k = oI X k := rfl
theorem qc6_A (Sa X : Ob) (k : Nat) : oA (qc6 Sa X) k = if k = 6 then va_cpy (oA Sa 6) (oA X 6) 0 0 6 else oA X k := rfl
theorem qc6_J (Sa X : Ob) (k : Nat) : oJ (qc6 Sa X) k = oJ X k := rfl
def qc7 (Sa X : Ob) : Ob := sI X 7 (oI Sa 7)
theorem qc7_I (Sa X : Ob) (k : Nat) : oI (qc7 Sa X) k = if k = 7 then oI Sa 7 else oI X k := rfl
theorem qc7_A (Sa X : Ob) (k : Nat) : oA (qc7 Sa X) k = oA X k := rfl
theorem qc7_J (Sa X : Ob) (k : Nat) : oJ (qc7 Sa X) k = oJ X k := rfl
def qc8 (Sa X : Ob) : Ob := sA X 8 (va_cpy (oA Sa 8) (oA X 8) 0 0 12)
theorem qc8_I (Sa X : Ob) (k : Nat) : oI (qc8 Sa X) k = oI X k := rfl
theorem qc8_A (Sa X : Ob) (k : Nat) : oA (qc8 Sa X) k = if k = 8 then va_cpy (oA Sa 8) (oA X 8) 0 0 12 else oA X k := rfl
theorem qc8_J (Sa X : Ob) (k : Nat) : oJ (qc8 Sa X) k = oJ X k := rfl
def qc9 (Sa X : Ob) : Ob := sA X 9 (va_cpy (oA Sa 9) (oA X 9) 0 0 12)
theorem qc9_I (Sa X : Ob) (k : Nat) : oI (qc9 Sa X) k = oI X k := rfl
theorem qc9_A (Sa X : Ob) (k : Nat) : oA (qc9 Sa X) k = if k = 9 then va_cpy (oA Sa 9) (oA X 9) 0 0 12 else oA X k := rfl
theorem qc9_J (Sa X : Ob) (k : Nat) : oJ (qc9 Sa X) k = oJ X k := rfl
def qc10 (Sa X : Ob) : Ob := sA X 10 (va_cpy (oA Sa 10) (oA X 10) 0 0 12)
theorem qc10_I (Sa X : Ob) (k : Nat) : oI (qc10 Sa X) k = oI X k := rfl
theorem qc10_A (Sa X : Ob) (k : Nat) : oA (qc10 Sa X) k = if k = 10 then va_cpy (oA Sa 10) (oA X 10) 0 0 12 else oA X k := rfl
theorem qc10_J (Sa X : Ob) (k : Nat) : oJ (qc10 Sa X) k = oJ X k := rfl
def qc11 (Sa X : Ob) : Ob := sI X 11 (oI Sa 11)
theorem qc11_I (Sa X : Ob) (k : Nat) : oI (qc11 Sa X) k = if k = 11 then oI Sa 11 else oI X k := rfl
theorem qc11_A (Sa X : Ob) (k : Nat) : oA (qc11 Sa X) k = oA X k := rfl
theorem qc11_J (Sa X : Ob) (k : Nat) : oJ (qc11 Sa X) k = oJ X k := rfl
def qc12 (Sa X : Ob) : Ob := sJ X 12 (va_cpy (oJ Sa 12) (oJ X 12) 0 0 4)
theorem qc12_I (Sa X : Ob) (k : Nat) : oI (qc12 Sa X) k = oI X k := rfl
theorem qc12_A (Sa X : Ob) (k : Nat) : oA (qc12 Sa X) k = oA X k := rfl
theorem qc12_J (Sa X : Ob) (k : Nat) : oJ (qc12 Sa X) k = if k = 12 then va_cpy (oJ Sa 12) (oJ X 12) 0 0 4 else oJ X k := rfl
def qc13 (Sa X : Ob) : Ob := sA X 13 (va_cpy (oA Sa 13) (oA X 13) 0 0 4)
theorem qc13_I (Sa X : Ob) (k : Nat) : oI (qc13 Sa X) k = oI X k := rfl
theorem qc13_A (Sa X : Ob) (k : Nat) : oA (qc13 Sa X) k = if k = 13 then va_cpy (oA Sa 13) (oA X 13) 0 0 4 else oA X k := rfl
theorem qc13_J (Sa X : Ob) (k : Nat) : oJ (qc13 Sa X) k = oJ X k := rfl
def qc14 (Sa X : Ob) : Ob := sI X 14 (oI Sa 14)
theorem qc14_I (Sa X : Ob) (k : Nat) : oI (qc14 Sa X) k = if k = 14 then oI Sa 14 else oI X k := rfl
theorem qc14_A (Sa X : Ob) (k : Nat) : oA (qc14 Sa X) k = oA X k := rfl
theorem qc14_J (Sa X : Ob) (k : Nat) : oJ (qc14 Sa X) k = oJ X k := rfl
theorem qc_eq (S Sa : Ob) : pX4_copyFrom S Sa = some (qc14 Sa (qc13 Sa (qc12 Sa (qc11 Sa (qc10 Sa (qc9 Sa (qc8 Sa (qc7 Sa (qc6 Sa (qc5 Sa (qc4 Sa (qc3 Sa (qc2 Sa (qc1 Sa (qc0 Sa S))))))))))))))) := rfl
theorem c_qcopy {S Sa : Ob} {g : Nat → Nat} (hQ : WQ g) (hR : QR Sa g) : okS (pX4_copyFrom S Sa) (fun W => QR W g ∧ (∀ i, i < 8 → oJ W 1 i = oJ Sa 1 i) ∧ (∀ i, i < 6 → oJ W 5 i = oJ Sa 5 i) ∧ (∀ i, i < 4 → oJ W 12 i = oJ Sa 12 i)) := by
  have g0 := w_g0 hQ
  have g1 := w_g1 hQ
  have g2 := w_g2 hQ
  have g3 := w_g3 hQ
  rw [qc_eq]
  refine okS_some ⟨⟨?_, ?_, ?_, ?_, ?_, fun i hi => ?_, fun i hi => ?_, fun i hi => ?_, fun i hi => ?_, fun i hi => ?_, fun i hi => ?_, fun i hi => ?_⟩, fun i hi => ?_, fun i hi => ?_, fun i hi => ?_⟩ <;> simp only [qc0_I, qc0_A, qc0_J, qc1_I, qc1_A, qc1_J, qc2_I, qc2_A, qc2_J, qc3_I, qc3_A, qc3_J, qc4_I, qc4_A, qc4_J, qc5_I, qc5_A, qc5_J, qc6_I, qc6_A, qc6_J, qc7_I, qc7_A, qc7_J, qc8_I, qc8_A, qc8_J, qc9_I, qc9_A, qc9_J, qc10_I, qc10_A, qc10_J, qc11_I, qc11_A, qc11_J, qc12_I, qc12_A, qc12_J, qc13_I, qc13_A, qc13_J, qc14_I, qc14_A, qc14_J, Nat.reduceEqDiff, n10, n01, reduceIte]
  · exact q_0 hR
  · exact q_4 hR
  · exact q_7 hR
  · exact q_11 hR
  · exact q_14 hR
  · unfold va_cpy
    rw [if_pos (by omega), Nat.zero_add, Nat.sub_zero]; exact q_2 hR i hi
  · unfold va_cpy
    rw [if_pos (by omega), Nat.zero_add, Nat.sub_zero]; exact q_3 hR i hi
  · unfold va_cpy
    rw [if_pos (by omega), Nat.zero_add, Nat.sub_zero]; exact q_6 hR i hi
  · unfold va_cpy
    rw [if_pos (by omega), Nat.zero_add, Nat.sub_zero]; exact q_8 hR i hi
  · unfold va_cpy
    rw [if_pos (by omega), Nat.zero_add, Nat.sub_zero]; exact q_9 hR i hi
  · unfold va_cpy
    rw [if_pos (by omega), Nat.zero_add, Nat.sub_zero]; exact q_10 hR i hi
  · unfold va_cpy
    rw [if_pos (by omega), Nat.zero_add, Nat.sub_zero]; exact q_13 hR i hi
  · unfold va_cpy
    rw [if_pos (by omega), Nat.zero_add, Nat.sub_zero]
  · unfold va_cpy
    rw [if_pos (by omega), Nat.zero_add, Nat.sub_zero]
  · unfold va_cpy
    rw [if_pos (by omega), Nat.zero_add, Nat.sub_zero]
/-! the reference's end of the reading -/
theorem sJ_sAx (M : Ob) (k j : Nat) (f : Nat → Int32) (J : Nat → Int64) : sJ (sA M k f) j J = sA (sJ M j J) k f := rfl
def gq1 (h g : Nat → Nat) (n : Nat) : Nat → Nat := fun k => if k < n then (if k < 121 then h k else 0) else g k
theorem gq1_s (h g : Nat → Nat) (n : Nat) : va_up (gq1 h g n) n (if n < 121 then h n else 0) = gq1 h g (n + 1) := funext fun k => by
  unfold gq1
  rw [up_app]
  by_cases e : k = n
  · subst e
    rw [if_pos rfl]; exact (if_pos (by omega)).symm
  · rw [if_neg e]
    by_cases c : k < n
    · rw [if_pos c]; exact (if_pos (show k < n + 1 by omega)).symm
    · rw [if_neg c]; exact (if_neg (show ¬ k < n + 1 by omega)).symm
theorem r_q80 (h7 : oA M 7 = Nf h) : ∀ (f k : Nat), k ≤ 390 → 390 - k < f → pX11_quarter_l80 f (nI k) (sA M 6 (Nf (gq1 h g k))) = some (sA M 6 (Nf (gq1 h g 390)))
  | 0, _, _, h => by omega
  | f + 1, k, h1, h2 => by
    rw [pX11_quarter_l80]
    by_cases c : k = 390
    · subst c; simp (disch := omega) only [l_0, l_1, l_2, l_3, l_4, l_5, l_6, l_7, l_8, l_9, l_10, l_11, l_12, l_13, l_14, l_15, l_16, l_17, l_18, l_19, l_20, l_21, l_22, l_23, l_24, l_25, l_26, l_27, l_28, l_29, l_30, l_31, l_32, l_33, l_34, l_35, l_36, l_40, l_41, l_48, l_56, l_57, l_59, l_60, l_61, l_62, l_63, l_79, l_81, l_88, l_93, l_97, l_99, l_105, l_117, l_121, l_122, l_125, l_127, l_131, l_179, l_185, l_193, l_197, l_200, l_201, l_210, l_255, l_390, l_400, l_616, l_900, l_940, l_999, l_1000, l_1024, e_ltT, e_ltF, e_leT, e_leF, e_eqT, e_eqF, e_cl, e_in, e_gd, e_bd, e_ne, e_en, e_nlt, e_ltn, e_len, e_nle, e_nn, e_z0, e_z1, nI_add, pk_mul, e_sub, Nf_app, e_refl, e_reflN, reduceIte, ite_true_, ite_false_, oA_self]
    · have ih := r_q80 h7 f (k + 1) (by omega) (by omega)
      have e := gq1_s h g k
      by_cases c2 : k < 121
      · rw [if_pos c2] at e
        simp (disch := omega) only [l_0, l_1, l_2, l_3, l_4, l_5, l_6, l_7, l_8, l_9, l_10, l_11, l_12, l_13, l_14, l_15, l_16, l_17, l_18, l_19, l_20, l_21, l_22, l_23, l_24, l_25, l_26, l_27, l_28, l_29, l_30, l_31, l_32, l_33, l_34, l_35, l_36, l_40, l_41, l_48, l_56, l_57, l_59, l_60, l_61, l_62, l_63, l_79, l_81, l_88, l_93, l_97, l_99, l_105, l_117, l_121, l_122, l_125, l_127, l_131, l_179, l_185, l_193, l_197, l_200, l_201, l_210, l_255, l_390, l_400, l_616, l_900, l_940, l_999, l_1000, l_1024, e_ltT, e_ltF, e_leT, e_leF, e_eqT, e_eqF, e_cl, e_in, e_gd, e_bd, e_ne, e_en, e_nlt, e_ltn, e_len, e_nle, e_nn, e_z0, e_z1, nI_add, pk_mul, e_sub, Nf_app, e_refl, e_reflN, reduceIte, ite_true_, ite_false_, oI_sI, oI_sL, oI_sW, oI_sA, oI_sJ, oI_sX, oL_sI, oL_sL, oL_sW, oL_sA, oL_sJ, oL_sX, oW_sI, oW_sL, oW_sW, oW_sA, oW_sJ, oW_sX, oA_sI, oA_sL, oA_sW, oA_sA, oA_sJ, oA_sX, oJ_sI, oJ_sL, oJ_sW, oJ_sA, oJ_sJ, oJ_sX, oX_sI, oX_sL, oX_sW, oX_sA, oX_sJ, oX_sX, Nat.reduceEqDiff, n10, n01, uv_eq, uv_ne, up_Nf, sA_sA, oA_self, h7, e, ih]
      · rw [if_neg c2] at e
        simp (disch := omega) only [l_0, l_1, l_2, l_3, l_4, l_5, l_6, l_7, l_8, l_9, l_10, l_11, l_12, l_13, l_14, l_15, l_16, l_17, l_18, l_19, l_20, l_21, l_22, l_23, l_24, l_25, l_26, l_27, l_28, l_29, l_30, l_31, l_32, l_33, l_34, l_35, l_36, l_40, l_41, l_48, l_56, l_57, l_59, l_60, l_61, l_62, l_63, l_79, l_81, l_88, l_93, l_97, l_99, l_105, l_117, l_121, l_122, l_125, l_127, l_131, l_179, l_185, l_193, l_197, l_200, l_201, l_210, l_255, l_390, l_400, l_616, l_900, l_940, l_999, l_1000, l_1024, e_ltT, e_ltF, e_leT, e_leF, e_eqT, e_eqF, e_cl, e_in, e_gd, e_bd, e_ne, e_en, e_nlt, e_ltn, e_len, e_nle, e_nn, e_z0, e_z1, nI_add, pk_mul, e_sub, Nf_app, e_refl, e_reflN, reduceIte, ite_true_, ite_false_, oI_sI, oI_sL, oI_sW, oI_sA, oI_sJ, oI_sX, oL_sI, oL_sL, oL_sW, oL_sA, oL_sJ, oL_sX, oW_sI, oW_sL, oW_sW, oW_sA, oW_sJ, oW_sX, oA_sI, oA_sL, oA_sW, oA_sA, oA_sJ, oA_sX, oJ_sI, oJ_sL, oJ_sW, oJ_sA, oJ_sJ, oJ_sX, oX_sI, oX_sL, oX_sW, oX_sA, oX_sJ, oX_sX, Nat.reduceEqDiff, n10, n01, uv_eq, uv_ne, up_Nf, sA_sA, oA_self, e, ih]
theorem r_q117 (M : Ob) (J : Nat → Int64) : ∀ (f k : Nat), k ≤ 18 → 18 - k < f → pX11_quarter_l117 f (nI k) (sJ M 9 (cpn J J 0 18 k)) = some (sJ M 9 (cpn J J 0 18 18))
  | 0, _, _, h => by omega
  | f + 1, k, h1, h2 => by
    rw [pX11_quarter_l117]
    by_cases c : k = 18
    · subst c; simp (disch := omega) only [l_0, l_1, l_2, l_3, l_4, l_5, l_6, l_7, l_8, l_9, l_10, l_11, l_12, l_13, l_14, l_15, l_16, l_17, l_18, l_19, l_20, l_21, l_22, l_23, l_24, l_25, l_26, l_27, l_28, l_29, l_30, l_31, l_32, l_33, l_34, l_35, l_36, l_40, l_41, l_48, l_56, l_57, l_59, l_60, l_61, l_62, l_63, l_79, l_81, l_88, l_93, l_97, l_99, l_105, l_117, l_121, l_122, l_125, l_127, l_131, l_179, l_185, l_193, l_197, l_200, l_201, l_210, l_255, l_390, l_400, l_616, l_900, l_940, l_999, l_1000, l_1024, e_ltT, e_ltF, e_leT, e_leF, e_eqT, e_eqF, e_cl, e_in, e_gd, e_bd, e_ne, e_en, e_nlt, e_ltn, e_len, e_nle, e_nn, e_z0, e_z1, nI_add, pk_mul, e_sub, Nf_app, e_refl, e_reflN, reduceIte, ite_true_, ite_false_, oJ_self]
    · have ih := r_q117 M J f (k + 1) (by omega) (by omega)
      have e := cpn_s J J 0 18 k
      rw [Nat.zero_add] at e
      have e2 : cpn J J 0 18 k (18 + k) = J (18 + k) := cpn_out (by omega)
      simp (disch := omega) only [l_0, l_1, l_2, l_3, l_4, l_5, l_6, l_7, l_8, l_9, l_10, l_11, l_12, l_13, l_14, l_15, l_16, l_17, l_18, l_19, l_20, l_21, l_22, l_23, l_24, l_25, l_26, l_27, l_28, l_29, l_30, l_31, l_32, l_33, l_34, l_35, l_36, l_40, l_41, l_48, l_56, l_57, l_59, l_60, l_61, l_62, l_63, l_79, l_81, l_88, l_93, l_97, l_99, l_105, l_117, l_121, l_122, l_125, l_127, l_131, l_179, l_185, l_193, l_197, l_200, l_201, l_210, l_255, l_390, l_400, l_616, l_900, l_940, l_999, l_1000, l_1024, e_ltT, e_ltF, e_leT, e_leF, e_eqT, e_eqF, e_cl, e_in, e_gd, e_bd, e_ne, e_en, e_nlt, e_ltn, e_len, e_nle, e_nn, e_z0, e_z1, nI_add, pk_mul, e_sub, Nf_app, e_refl, e_reflN, reduceIte, ite_true_, ite_false_, oI_sI, oI_sL, oI_sW, oI_sA, oI_sJ, oI_sX, oL_sI, oL_sL, oL_sW, oL_sA, oL_sJ, oL_sX, oW_sI, oW_sL, oW_sW, oW_sA, oW_sJ, oW_sX, oA_sI, oA_sL, oA_sW, oA_sA, oA_sJ, oA_sX, oJ_sI, oJ_sL, oJ_sW, oJ_sA, oJ_sJ, oJ_sX, oX_sI, oX_sL, oX_sW, oX_sA, oX_sJ, oX_sX, Nat.reduceEqDiff, n10, n01, sJ_sJ, e2, e, ih]
theorem r_q146 (M : Ob) (u : Nat → Nat) : ∀ (f k : Nat), k ≤ 6 → 6 - k < f → pX11_quarter_l146 f (nI k) (sA M 6 (Nf (cpn u u 125 27 k))) = some (sA M 6 (Nf (cpn u u 125 27 6)))
  | 0, _, _, h => by omega
  | f + 1, k, h1, h2 => by
    rw [pX11_quarter_l146]
    by_cases c : k = 6
    · subst c; simp (disch := omega) only [l_0, l_1, l_2, l_3, l_4, l_5, l_6, l_7, l_8, l_9, l_10, l_11, l_12, l_13, l_14, l_15, l_16, l_17, l_18, l_19, l_20, l_21, l_22, l_23, l_24, l_25, l_26, l_27, l_28, l_29, l_30, l_31, l_32, l_33, l_34, l_35, l_36, l_40, l_41, l_48, l_56, l_57, l_59, l_60, l_61, l_62, l_63, l_79, l_81, l_88, l_93, l_97, l_99, l_105, l_117, l_121, l_122, l_125, l_127, l_131, l_179, l_185, l_193, l_197, l_200, l_201, l_210, l_255, l_390, l_400, l_616, l_900, l_940, l_999, l_1000, l_1024, e_ltT, e_ltF, e_leT, e_leF, e_eqT, e_eqF, e_cl, e_in, e_gd, e_bd, e_ne, e_en, e_nlt, e_ltn, e_len, e_nle, e_nn, e_z0, e_z1, nI_add, pk_mul, e_sub, Nf_app, e_refl, e_reflN, reduceIte, ite_true_, ite_false_, oA_self]
    · have ih := r_q146 M u f (k + 1) (by omega) (by omega)
      have e := cpn_s u u 125 27 k
      have e2 : cpn u u 125 27 k (27 + k) = u (27 + k) := cpn_out (by omega)
      simp (disch := omega) only [l_0, l_1, l_2, l_3, l_4, l_5, l_6, l_7, l_8, l_9, l_10, l_11, l_12, l_13, l_14, l_15, l_16, l_17, l_18, l_19, l_20, l_21, l_22, l_23, l_24, l_25, l_26, l_27, l_28, l_29, l_30, l_31, l_32, l_33, l_34, l_35, l_36, l_40, l_41, l_48, l_56, l_57, l_59, l_60, l_61, l_62, l_63, l_79, l_81, l_88, l_93, l_97, l_99, l_105, l_117, l_121, l_122, l_125, l_127, l_131, l_179, l_185, l_193, l_197, l_200, l_201, l_210, l_255, l_390, l_400, l_616, l_900, l_940, l_999, l_1000, l_1024, e_ltT, e_ltF, e_leT, e_leF, e_eqT, e_eqF, e_cl, e_in, e_gd, e_bd, e_ne, e_en, e_nlt, e_ltn, e_len, e_nle, e_nn, e_z0, e_z1, nI_add, pk_mul, e_sub, Nf_app, e_refl, e_reflN, reduceIte, ite_true_, ite_false_, oI_sI, oI_sL, oI_sW, oI_sA, oI_sJ, oI_sX, oL_sI, oL_sL, oL_sW, oL_sA, oL_sJ, oL_sX, oW_sI, oW_sL, oW_sW, oW_sA, oW_sJ, oW_sX, oA_sI, oA_sL, oA_sW, oA_sA, oA_sJ, oA_sX, oJ_sI, oJ_sL, oJ_sW, oJ_sA, oJ_sJ, oJ_sX, oX_sI, oX_sL, oX_sW, oX_sA, oX_sJ, oX_sX, Nat.reduceEqDiff, n10, n01, uv_eq, uv_ne, up_Nf, sA_sA, oA_self, e2, e, ih]
theorem r_q178 (M : Ob) (u : Nat → Nat) : ∀ (f k : Nat), k ≤ 48 → 48 - k < f → pX11_quarter_l178 f (nI k) (sA M 6 (Nf (cpn u u 131 33 k))) = some (sA M 6 (Nf (cpn u u 131 33 48)))
  | 0, _, _, h => by omega
  | f + 1, k, h1, h2 => by
    rw [pX11_quarter_l178]
    by_cases c : k = 48
    · subst c; simp (disch := omega) only [l_0, l_1, l_2, l_3, l_4, l_5, l_6, l_7, l_8, l_9, l_10, l_11, l_12, l_13, l_14, l_15, l_16, l_17, l_18, l_19, l_20, l_21, l_22, l_23, l_24, l_25, l_26, l_27, l_28, l_29, l_30, l_31, l_32, l_33, l_34, l_35, l_36, l_40, l_41, l_48, l_56, l_57, l_59, l_60, l_61, l_62, l_63, l_79, l_81, l_88, l_93, l_97, l_99, l_105, l_117, l_121, l_122, l_125, l_127, l_131, l_179, l_185, l_193, l_197, l_200, l_201, l_210, l_255, l_390, l_400, l_616, l_900, l_940, l_999, l_1000, l_1024, e_ltT, e_ltF, e_leT, e_leF, e_eqT, e_eqF, e_cl, e_in, e_gd, e_bd, e_ne, e_en, e_nlt, e_ltn, e_len, e_nle, e_nn, e_z0, e_z1, nI_add, pk_mul, e_sub, Nf_app, e_refl, e_reflN, reduceIte, ite_true_, ite_false_, oA_self]
    · have ih := r_q178 M u f (k + 1) (by omega) (by omega)
      have e := cpn_s u u 131 33 k
      have e2 : cpn u u 131 33 k (33 + k) = u (33 + k) := cpn_out (by omega)
      simp (disch := omega) only [l_0, l_1, l_2, l_3, l_4, l_5, l_6, l_7, l_8, l_9, l_10, l_11, l_12, l_13, l_14, l_15, l_16, l_17, l_18, l_19, l_20, l_21, l_22, l_23, l_24, l_25, l_26, l_27, l_28, l_29, l_30, l_31, l_32, l_33, l_34, l_35, l_36, l_40, l_41, l_48, l_56, l_57, l_59, l_60, l_61, l_62, l_63, l_79, l_81, l_88, l_93, l_97, l_99, l_105, l_117, l_121, l_122, l_125, l_127, l_131, l_179, l_185, l_193, l_197, l_200, l_201, l_210, l_255, l_390, l_400, l_616, l_900, l_940, l_999, l_1000, l_1024, e_ltT, e_ltF, e_leT, e_leF, e_eqT, e_eqF, e_cl, e_in, e_gd, e_bd, e_ne, e_en, e_nlt, e_ltn, e_len, e_nle, e_nn, e_z0, e_z1, nI_add, pk_mul, e_sub, Nf_app, e_refl, e_reflN, reduceIte, ite_true_, ite_false_, oI_sI, oI_sL, oI_sW, oI_sA, oI_sJ, oI_sX, oL_sI, oL_sL, oL_sW, oL_sA, oL_sJ, oL_sX, oW_sI, oW_sL, oW_sW, oW_sA, oW_sJ, oW_sX, oA_sI, oA_sL, oA_sW, oA_sA, oA_sJ, oA_sX, oJ_sI, oJ_sL, oJ_sW, oJ_sA, oJ_sJ, oJ_sX, oX_sI, oX_sL, oX_sW, oX_sA, oX_sJ, oX_sX, Nat.reduceEqDiff, n10, n01, uv_eq, uv_ne, up_Nf, sA_sA, oA_self, e2, e, ih]
def gQ (h g : Nat → Nat) : Nat → Nat := cpn (cpn (gq1 h g 390) (gq1 h g 390) 125 27 6) (cpn (gq1 h g 390) (gq1 h g 390) 125 27 6) 131 33 48
theorem gQ_lo {k : Nat} (hk : k < 121) : gQ h g k = h k := by
  unfold gQ
  rw [cpn_out (by omega), cpn_out (by omega)]
  unfold gq1
  rw [if_pos (by omega), if_pos hk]
theorem gQ_len {p : Nat} (hp : p < 6) : gQ h g (125 + p) = h (27 + p) := by
  unfold gQ
  rw [cpn_out (by omega), cpn_in (by omega) (by omega), show 27 + (125 + p - 125) = 27 + p by omega]
  unfold gq1
  rw [if_pos (by omega), if_pos (by omega)]
theorem gQ_hair {k : Nat} (hk : k < 48) : gQ h g (131 + k) = h (33 + k) := by
  unfold gQ
  rw [cpn_in (by omega) (by omega), show 33 + (131 + k - 131) = 33 + k by omega, cpn_out (by omega)]
  unfold gq1
  rw [if_pos (by omega), if_pos (by omega)]
theorem gQ_z {k : Nat} (hk : (121 ≤ k ∧ k < 125) ∨ (179 ≤ k ∧ k < 390)) : gQ h g k = 0 := by
  unfold gQ
  rw [cpn_out (by omega), cpn_out (by omega)]
  unfold gq1
  rw [if_pos (by omega), if_neg (by omega)]
theorem r_qend (H : DR D T M h nn b) (h6 : oA M 6 = Nf g) (h11 : oI M 11 = nI 0) {n : Nat} (h19 : oI M 19 = nI n) (f : Nat) : pX11_quarter_l35 (f + 1) M = some (nI n, sI (sA (sJ M 9 (cpn (oJ M 9) (oJ M 9) 0 18 18)) 6 (Nf (gQ h g))) 23 (nI 0)) := by
  obtain ⟨h1, h2, h3, _⟩ := H
  have a1 := r_q80 (M := M) (g := g) h3 fu 0 (by omega) (by rw [fu_eq]; omega)
  have z1 : gq1 h g 0 = g := funext fun k => if_neg (by omega)
  rw [z1, ← h6, sA_self] at a1
  have a2 := r_q117 (sA M 6 (Nf (gq1 h g 390))) (oJ M 9) fu 0 (by omega) (by rw [fu_eq]; omega)
  have z2 : sJ (sA M 6 (Nf (gq1 h g 390))) 9 (cpn (oJ M 9) (oJ M 9) 0 18 0) = sA M 6 (Nf (gq1 h g 390)) := by
    have e : oJ (sA M 6 (Nf (gq1 h g 390))) 9 = oJ M 9 := oJ_sA _ _ _ _
    rw [cpn_0, ← e, sJ_selfJ]
  rw [z2] at a2
  have a3 := r_q146 (sJ M 9 (cpn (oJ M 9) (oJ M 9) 0 18 18)) (gq1 h g 390) fu 0 (by omega) (by rw [fu_eq]; omega)
  rw [cpn_0] at a3
  have sw : ∀ f, sJ (sA M 6 f) 9 (cpn (oJ M 9) (oJ M 9) 0 18 18) = sA (sJ M 9 (cpn (oJ M 9) (oJ M 9) 0 18 18)) 6 f := fun f => sJ_sAx M 6 9 f _
  rw [sw] at a2
  have a4 := r_q178 (sJ M 9 (cpn (oJ M 9) (oJ M 9) 0 18 18)) (cpn (gq1 h g 390) (gq1 h g 390) 125 27 6) fu 0 (by omega) (by rw [fu_eq]; omega)
  rw [cpn_0] at a4
  have h11' : oI M 11 = (0 : Int32) := h11
  rw [pX11_quarter_l35, if_pos h11']
  simp only [l_0]
  rw [a1, e_bd, a2, e_bd, a3, e_bd, a4, e_bd, oI_sI, if_neg (by omega), oI_sA, oI_sJ, h19, gQ]
/-- the names now -/
def NR (V M : Ob) (g nn : Nat → Nat) : Prop := NS (oJ V 1) M 0 (g 0) nn ∧ NS (oJ V 5) M 8 (g 1) (fun i => nn (8 + i)) ∧ NS (oJ V 12) M 14 (g 3) (fun i => nn (14 + i))
theorem wq_new (H : WQ h) : WQ (gQ h g) := by
  obtain ⟨w0, w1, w2, w3, w4, w5, w6, w7, w8⟩ := H
  unfold WQ
  rw [gQ_lo (k := 0) (by omega), gQ_lo (k := 1) (by omega), gQ_lo (k := 2) (by omega), gQ_lo (k := 3) (by omega), gQ_lo (k := 4) (by omega)]
  refine ⟨w0, w1, w2, w3, w4, fun i hi => ?_, fun i hi => ?_, fun i hi => ?_, fun i hi => ?_⟩
  · rw [gQ_lo (by omega), gQ_lo (by omega)]; exact w5 i hi
  · rw [gQ_lo (by omega)]; exact w6 i hi
  · rw [gQ_lo (by omega), gQ_lo (by omega), gQ_lo (by omega)]; exact w7 i hi
  · rw [gQ_lo (by omega)]; exact w8 i hi
theorem qr_new (H : WQ h) (hR : QR D h) : QR D (gQ h g) := by
  have g0 := w_g0 H
  have g1 := w_g1 H
  have g2 := w_g2 H
  have g3 := w_g3 H
  obtain ⟨w0, w1, w2, w3, w4, w5, w6, w7, w8, w9, w10, w11⟩ := hR
  unfold QR
  rw [gQ_lo (k := 0) (by omega), gQ_lo (k := 1) (by omega), gQ_lo (k := 2) (by omega), gQ_lo (k := 3) (by omega), gQ_lo (k := 4) (by omega)]
  refine ⟨w0, w1, w2, w3, w4, fun i hi => ?_, fun i hi => ?_, fun i hi => ?_, fun i hi => ?_, fun i hi => ?_, fun i hi => ?_, fun i hi => ?_⟩
  · rw [gQ_lo (by omega)]; exact w5 i hi
  · rw [gQ_lo (by omega)]; exact w6 i hi
  · rw [gQ_lo (by omega)]; exact w7 i hi
  · rw [gQ_lo (by omega)]; exact w8 i hi
  · rw [gQ_lo (by omega)]; exact w9 i hi
  · rw [gQ_lo (by omega)]; exact w10 i hi
  · rw [gQ_lo (by omega)]; exact w11 i hi
theorem ws_new (H : WQ h) (hS : ST T h) : WS N (gQ h g) ∧ SR T (gQ h g) ∧ gQ h g 121 = 0 := by
  have g1 := w_g1 H
  obtain ⟨a, b, c, d, e7, e8, e9, e10, e11⟩ := hS
  have zs : sm (fun t => gQ h g (185 + t)) 8 = 0 := by
    have := sm_le (f := fun t => gQ h g (185 + t)) (c := 0) (n := 8) (fun t ht => by rw [gQ_z (by omega)]; exact Nat.le_refl _)
    omega
  refine ⟨⟨fun p hp => ?_, fun p hp k hk => ?_, fun p hp => ?_, by rw [zs]; omega, fun t _ _ => gQ_z (by omega), fun b hb => by rw [gQ_z (by omega)]; omega⟩, ⟨fun p hp k hk => ?_, fun p hp => ?_, fun p hp => ?_, fun t ht => ?_, fun t ht => ?_, fun t ht => ?_, fun t ht => ?_, ?_, ?_, ?_, ?_, ?_⟩, gQ_z (by omega)⟩
  · rw [gQ_len hp]; exact (a p hp).1
  · rw [gQ_len hp] at hk
    have := (a p hp).1
    rw [show 131 + 8 * p + k = 131 + (8 * p + k) by omega, gQ_hair (by omega), gQ_lo (by omega), ← Nat.add_assoc]; exact (b p hp k hk).2
  · rw [gQ_lo (k := 1) (by omega)] at hp
    rw [gQ_z (by omega)]; omega
  · rw [gQ_len hp] at hk
    have := (a p hp).1
    rw [show 131 + 8 * p + k = 131 + (8 * p + k) by omega, gQ_hair (by omega), ← Nat.add_assoc]; exact (b p hp k hk).1
  · rw [gQ_len hp]; exact (a p hp).2.1
  · rw [gQ_lo (k := 1) (by omega)] at hp
    rw [gQ_z (by omega)]; exact (a p (by omega)).2.2
  · rw [gQ_z (by omega)]; exact (c t ht).1
  · rw [gQ_z (by omega)]; exact (c t ht).2
  · rw [gQ_z (by omega)]; exact (d t ht).1
  · rw [gQ_z (by omega)]; exact (d t ht).2
  · rw [zs]; exact e7
  · rw [gQ_z (by omega)]; exact e8
  · rw [gQ_z (by omega)]; exact e9
  · rw [gQ_z (by omega)]; exact e10
  · rw [gQ_z (by omega)]; exact e11
end
