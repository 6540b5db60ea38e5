/-! rows copied in the reference; the class's copies -/
/-- n cells from d on are those of f from s on -/
def cpn {α : Type} (f h : Nat → α) (d s n : Nat) : Nat → α := fun k => if d ≤ k ∧ k < d + n then f (s + (k - d)) else h k
theorem cpn_0 {α : Type} (f h : Nat → α) (d s : Nat) : cpn f h d s 0 = h := funext fun k => if_neg (by omega)
theorem cpn_s {α : Type} (f h : Nat → α) (d s n : Nat) : va_up (cpn f h d s n) (d + n) (f (s + n)) = cpn f h d s (n + 1) := funext fun k => by
  unfold cpn
  rw [up_app]
  by_cases e : k = d + n
  · rw [if_pos e, if_pos (by omega), e, Nat.add_sub_cancel_left]
  · rw [if_neg e]
    by_cases e2 : d ≤ k ∧ k < d + n
    · rw [if_pos e2, if_pos (by omega)]
    · rw [if_neg e2, if_neg (by omega)]
theorem cpn_in {α : Type} {f h : Nat → α} {d s n k : Nat} (h1 : d ≤ k) (h2 : k < d + n) : cpn f h d s n k = f (s + (k - d)) := if_pos ⟨h1, h2⟩
theorem cpn_out {α : Type} {f h : Nat → α} {d s n k : Nat} (h1 : k < d ∨ d + n ≤ k) : cpn f h d s n k = h k := if_neg (by omega)
theorem oA_self (S : Ob) (k : Nat) (f : Nat → Int32) : oA (sA S k f) k = f := by rw [oA_sA, if_pos rfl]
theorem oJ_self (S : Ob) (k : Nat) (f : Nat → Int64) : oJ (sJ S k f) k = f := by rw [oJ_sJ, if_pos rfl]
theorem sJ_sJ (S : Ob) (k : Nat) (f h : Nat → Int64) : sJ (sJ S k f) k h = sJ S k h := by
  unfold sJ; congr 5; funext j; simp only [va_up]; split <;> rfl
theorem sJ_selfJ (S : Ob) (k : Nat) : sJ S k (oJ S k) = S := by
  unfold sJ oJ
  have : va_up S.2.2.2.2.1 k (S.2.2.2.2.1 k) = S.2.2.2.2.1 := by
    funext j; unfold va_up; split
    · next h => rw [h]
    · rfl
  rw [this]
section
variable {N : Nat} {g : Nat → Nat} {M V V2 : Ob}
theorem r_tries_l (M : Ob) (f : Nat → Int32) : ∀ (n k : Nat), k ≤ 88 → 88 - k < n → pX11_tries_l2 n (nI k) (sA M 22 (cpn (oA M 6) f 0 121 k)) = some (sA M 22 (cpn (oA M 6) f 0 121 88))
  | 0, _, _, h => by omega
  | n + 1, k, h1, h2 => by
    rw [pX11_tries_l2]
    by_cases hz : k = 88
    · subst hz; simp (disch := omega) only [l_0, l_1, l_2, l_3, l_4, l_5, l_6, l_7, l_8, l_9, l_10, l_11, l_12, l_13, l_14, l_15, l_16, l_17, l_18, l_19, l_20, l_21, l_22, l_23, l_24, l_25, l_26, l_27, l_28, l_29, l_30, l_31, l_32, l_33, l_34, l_35, l_36, l_40, l_41, l_48, l_56, l_57, l_59, l_60, l_61, l_62, l_63, l_79, l_81, l_88, l_93, l_97, l_99, l_105, l_117, l_121, l_122, l_125, l_127, l_131, l_179, l_185, l_193, l_197, l_200, l_201, l_210, l_255, l_390, l_400, l_616, l_900, l_940, l_999, l_1000, l_1024, e_ltT, e_ltF, e_leT, e_leF, e_eqT, e_eqF, e_cl, e_in, e_gd, e_bd, e_ne, e_en, e_nlt, e_ltn, e_len, e_nle, e_nn, e_z0, e_z1, nI_add, pk_mul, e_sub, Nf_app, e_refl, e_reflN, reduceIte, ite_true_, ite_false_, oA_self]
    · have ih := r_tries_l M f n (k + 1) (by omega) (by omega)
      have e := cpn_s (oA M 6) f 0 121 k
      rw [Nat.zero_add] at e
      simp (disch := omega) only [l_0, l_1, l_2, l_3, l_4, l_5, l_6, l_7, l_8, l_9, l_10, l_11, l_12, l_13, l_14, l_15, l_16, l_17, l_18, l_19, l_20, l_21, l_22, l_23, l_24, l_25, l_26, l_27, l_28, l_29, l_30, l_31, l_32, l_33, l_34, l_35, l_36, l_40, l_41, l_48, l_56, l_57, l_59, l_60, l_61, l_62, l_63, l_79, l_81, l_88, l_93, l_97, l_99, l_105, l_117, l_121, l_122, l_125, l_127, l_131, l_179, l_185, l_193, l_197, l_200, l_201, l_210, l_255, l_390, l_400, l_616, l_900, l_940, l_999, l_1000, l_1024, e_ltT, e_ltF, e_leT, e_leF, e_eqT, e_eqF, e_cl, e_in, e_gd, e_bd, e_ne, e_en, e_nlt, e_ltn, e_len, e_nle, e_nn, e_z0, e_z1, nI_add, pk_mul, e_sub, Nf_app, e_refl, e_reflN, reduceIte, ite_true_, ite_false_, oI_sI, oI_sL, oI_sW, oI_sA, oI_sJ, oI_sX, oL_sI, oL_sL, oL_sW, oL_sA, oL_sJ, oL_sX, oW_sI, oW_sL, oW_sW, oW_sA, oW_sJ, oW_sX, oA_sI, oA_sL, oA_sW, oA_sA, oA_sJ, oA_sX, oJ_sI, oJ_sL, oJ_sW, oJ_sA, oJ_sJ, oJ_sX, oX_sI, oX_sL, oX_sW, oX_sA, oX_sJ, oX_sX, Nat.reduceEqDiff, n10, n01, sA_sA, e, ih]
theorem r_tries (M : Ob) : pX11_tries M = some (sA M 22 (cpn (oA M 6) (oA M 22) 0 121 88)) := by
  have h := r_tries_l M (oA M 22) fu 0 (by omega) (by rw [fu_eq]; omega)
  rw [cpn_0, sA_self] at h
  unfold pX11_tries
  rw [l_0, h, e_bd]
theorem r_back_l (M : Ob) (f : Nat → Int32) : ∀ (n k : Nat), k ≤ 88 → 88 - k < n → pX11_back_l2 n (nI k) (sA M 6 (cpn (oA M 22) f 121 0 k)) = some (sA M 6 (cpn (oA M 22) f 121 0 88))
  | 0, _, _, h => by omega
  | n + 1, k, h1, h2 => by
    rw [pX11_back_l2]
    by_cases hz : k = 88
    · subst hz; simp (disch := omega) only [l_0, l_1, l_2, l_3, l_4, l_5, l_6, l_7, l_8, l_9, l_10, l_11, l_12, l_13, l_14, l_15, l_16, l_17, l_18, l_19, l_20, l_21, l_22, l_23, l_24, l_25, l_26, l_27, l_28, l_29, l_30, l_31, l_32, l_33, l_34, l_35, l_36, l_40, l_41, l_48, l_56, l_57, l_59, l_60, l_61, l_62, l_63, l_79, l_81, l_88, l_93, l_97, l_99, l_105, l_117, l_121, l_122, l_125, l_127, l_131, l_179, l_185, l_193, l_197, l_200, l_201, l_210, l_255, l_390, l_400, l_616, l_900, l_940, l_999, l_1000, l_1024, e_ltT, e_ltF, e_leT, e_leF, e_eqT, e_eqF, e_cl, e_in, e_gd, e_bd, e_ne, e_en, e_nlt, e_ltn, e_len, e_nle, e_nn, e_z0, e_z1, nI_add, pk_mul, e_sub, Nf_app, e_refl, e_reflN, reduceIte, ite_true_, ite_false_, oA_self]
    · have ih := r_back_l M f n (k + 1) (by omega) (by omega)
      have e := cpn_s (oA M 22) f 121 0 k
      rw [Nat.zero_add] at e
      simp (disch := omega) only [l_0, l_1, l_2, l_3, l_4, l_5, l_6, l_7, l_8, l_9, l_10, l_11, l_12, l_13, l_14, l_15, l_16, l_17, l_18, l_19, l_20, l_21, l_22, l_23, l_24, l_25, l_26, l_27, l_28, l_29, l_30, l_31, l_32, l_33, l_34, l_35, l_36, l_40, l_41, l_48, l_56, l_57, l_59, l_60, l_61, l_62, l_63, l_79, l_81, l_88, l_93, l_97, l_99, l_105, l_117, l_121, l_122, l_125, l_127, l_131, l_179, l_185, l_193, l_197, l_200, l_201, l_210, l_255, l_390, l_400, l_616, l_900, l_940, l_999, l_1000, l_1024, e_ltT, e_ltF, e_leT, e_leF, e_eqT, e_eqF, e_cl, e_in, e_gd, e_bd, e_ne, e_en, e_nlt, e_ltn, e_len, e_nle, e_nn, e_z0, e_z1, nI_add, pk_mul, e_sub, Nf_app, e_refl, e_reflN, reduceIte, ite_true_, ite_false_, oI_sI, oI_sL, oI_sW, oI_sA, oI_sJ, oI_sX, oL_sI, oL_sL, oL_sW, oL_sA, oL_sJ, oL_sX, oW_sI, oW_sL, oW_sW, oW_sA, oW_sJ, oW_sX, oA_sI, oA_sL, oA_sW, oA_sA, oA_sJ, oA_sX, oJ_sI, oJ_sL, oJ_sW, oJ_sA, oJ_sJ, oJ_sX, oX_sI, oX_sL, oX_sW, oX_sA, oX_sJ, oX_sX, Nat.reduceEqDiff, n10, n01, sA_sA, e, ih]
theorem r_back (M : Ob) : pX11_back M = some (sA M 6 (cpn (oA M 22) (oA M 6) 121 0 88)) := by
  have h := r_back_l M (oA M 6) fu 0 (by omega) (by rw [fu_eq]; omega)
  rw [cpn_0, sA_self] at h
  unfold pX11_back
  rw [l_0, h, e_bd]
/-- what was tried, and is as it was again -/
theorem back_g {h : Nat → Nat} (e : Sm g h) {f : Nat → Int32} (hf : ∀ k, k < 88 → f k = nI (g (121 + k))) : cpn f (Nf h) 121 0 88 = Nf g := funext fun k => by
  by_cases c : 121 ≤ k ∧ k < 209
  · rw [cpn_in (by omega) (by omega), Nat.zero_add, hf _ (by omega), Nf_app]
    congr 2; omega
  · rw [cpn_out (by omega), Nf_app, Nf_app, e k (by omega)]
theorem r_keep_l (M : Ob) {m : Nat} (hm : m < 8) (hu : oI M 23 = nI m) (f : Nat → Int32) : ∀ (n k : Nat), k ≤ 88 → 88 - k < n → pX11_keep_l47 n (nI k) (sA M 21 (cpn (oA M 6) f (88 * m) 121 k)) = some (sA M 21 (cpn (oA M 6) f (88 * m) 121 88))
  | 0, _, _, h => by omega
  | n + 1, k, h1, h2 => by
    rw [pX11_keep_l47]
    by_cases hz : k = 88
    · subst hz; simp (disch := omega) only [l_0, l_1, l_2, l_3, l_4, l_5, l_6, l_7, l_8, l_9, l_10, l_11, l_12, l_13, l_14, l_15, l_16, l_17, l_18, l_19, l_20, l_21, l_22, l_23, l_24, l_25, l_26, l_27, l_28, l_29, l_30, l_31, l_32, l_33, l_34, l_35, l_36, l_40, l_41, l_48, l_56, l_57, l_59, l_60, l_61, l_62, l_63, l_79, l_81, l_88, l_93, l_97, l_99, l_105, l_117, l_121, l_122, l_125, l_127, l_131, l_179, l_185, l_193, l_197, l_200, l_201, l_210, l_255, l_390, l_400, l_616, l_900, l_940, l_999, l_1000, l_1024, e_ltT, e_ltF, e_leT, e_leF, e_eqT, e_eqF, e_cl, e_in, e_gd, e_bd, e_ne, e_en, e_nlt, e_ltn, e_len, e_nle, e_nn, e_z0, e_z1, nI_add, pk_mul, e_sub, Nf_app, e_refl, e_reflN, reduceIte, ite_true_, ite_false_, oA_self]
    · have ih := r_keep_l M hm hu f n (k + 1) (by omega) (by omega)
      have e := cpn_s (oA M 6) f (88 * m) 121 k
      simp (disch := omega) only [l_0, l_1, l_2, l_3, l_4, l_5, l_6, l_7, l_8, l_9, l_10, l_11, l_12, l_13, l_14, l_15, l_16, l_17, l_18, l_19, l_20, l_21, l_22, l_23, l_24, l_25, l_26, l_27, l_28, l_29, l_30, l_31, l_32, l_33, l_34, l_35, l_36, l_40, l_41, l_48, l_56, l_57, l_59, l_60, l_61, l_62, l_63, l_79, l_81, l_88, l_93, l_97, l_99, l_105, l_117, l_121, l_122, l_125, l_127, l_131, l_179, l_185, l_193, l_197, l_200, l_201, l_210, l_255, l_390, l_400, l_616, l_900, l_940, l_999, l_1000, l_1024, e_ltT, e_ltF, e_leT, e_leF, e_eqT, e_eqF, e_cl, e_in, e_gd, e_bd, e_ne, e_en, e_nlt, e_ltn, e_len, e_nle, e_nn, e_z0, e_z1, nI_add, pk_mul, e_sub, Nf_app, e_refl, e_reflN, reduceIte, ite_true_, ite_false_, oI_sI, oI_sL, oI_sW, oI_sA, oI_sJ, oI_sX, oL_sI, oL_sL, oL_sW, oL_sA, oL_sJ, oL_sX, oW_sI, oW_sL, oW_sW, oW_sA, oW_sJ, oW_sX, oA_sI, oA_sL, oA_sW, oA_sA, oA_sJ, oA_sX, oJ_sI, oJ_sL, oJ_sW, oJ_sA, oJ_sJ, oJ_sX, oX_sI, oX_sL, oX_sW, oX_sA, oX_sJ, oX_sX, Nat.reduceEqDiff, n10, n01, hu, sA_sA, e, ih]
theorem r_shift_l (M : Ob) (u : Nat → Int32) : ∀ (n k : Nat), k ≤ 616 → 616 - k < n → pX11_keep_l11 n (nI k) (sA M 21 (cpn u u 0 88 k)) = some (sA M 21 (cpn u u 0 88 616))
  | 0, _, _, h => by omega
  | n + 1, k, h1, h2 => by
    rw [pX11_keep_l11]
    by_cases hz : k = 616
    · subst hz; simp (disch := omega) only [l_0, l_1, l_2, l_3, l_4, l_5, l_6, l_7, l_8, l_9, l_10, l_11, l_12, l_13, l_14, l_15, l_16, l_17, l_18, l_19, l_20, l_21, l_22, l_23, l_24, l_25, l_26, l_27, l_28, l_29, l_30, l_31, l_32, l_33, l_34, l_35, l_36, l_40, l_41, l_48, l_56, l_57, l_59, l_60, l_61, l_62, l_63, l_79, l_81, l_88, l_93, l_97, l_99, l_105, l_117, l_121, l_122, l_125, l_127, l_131, l_179, l_185, l_193, l_197, l_200, l_201, l_210, l_255, l_390, l_400, l_616, l_900, l_940, l_999, l_1000, l_1024, e_ltT, e_ltF, e_leT, e_leF, e_eqT, e_eqF, e_cl, e_in, e_gd, e_bd, e_ne, e_en, e_nlt, e_ltn, e_len, e_nle, e_nn, e_z0, e_z1, nI_add, pk_mul, e_sub, Nf_app, e_refl, e_reflN, reduceIte, ite_true_, ite_false_, oA_self]
    · have ih := r_shift_l M u n (k + 1) (by omega) (by omega)
      have e := cpn_s u u 0 88 k
      rw [Nat.zero_add] at e
      have e2 : cpn u u 0 88 k (k + 88) = u (88 + k) := by rw [cpn_out (by omega), Nat.add_comm]
      simp (disch := omega) only [l_0, l_1, l_2, l_3, l_4, l_5, l_6, l_7, l_8, l_9, l_10, l_11, l_12, l_13, l_14, l_15, l_16, l_17, l_18, l_19, l_20, l_21, l_22, l_23, l_24, l_25, l_26, l_27, l_28, l_29, l_30, l_31, l_32, l_33, l_34, l_35, l_36, l_40, l_41, l_48, l_56, l_57, l_59, l_60, l_61, l_62, l_63, l_79, l_81, l_88, l_93, l_97, l_99, l_105, l_117, l_121, l_122, l_125, l_127, l_131, l_179, l_185, l_193, l_197, l_200, l_201, l_210, l_255, l_390, l_400, l_616, l_900, l_940, l_999, l_1000, l_1024, e_ltT, e_ltF, e_leT, e_leF, e_eqT, e_eqF, e_cl, e_in, e_gd, e_bd, e_ne, e_en, e_nlt, e_ltn, e_len, e_nle, e_nn, e_z0, e_z1, nI_add, pk_mul, e_sub, Nf_app, e_refl, e_reflN, reduceIte, ite_true_, ite_false_, oI_sI, oI_sL, oI_sW, oI_sA, oI_sJ, oI_sX, oL_sI, oL_sL, oL_sW, oL_sA, oL_sJ, oL_sX, oW_sI, oW_sL, oW_sW, oW_sA, oW_sJ, oW_sX, oA_sI, oA_sL, oA_sW, oA_sA, oA_sJ, oA_sX, oJ_sI, oJ_sL, oJ_sW, oJ_sA, oJ_sJ, oJ_sX, oX_sI, oX_sL, oX_sW, oX_sA, oX_sJ, oX_sX, Nat.reduceEqDiff, n10, n01, sA_sA, e2, e, ih]
/-- the kept rows behind keep() -/
def ku (u s : Nat → Int32) (m : Nat) : Nat → Int32 := if m = 8 then cpn s (cpn u u 0 88 616) (88 * 7) 121 88 else cpn s u (88 * m) 121 88
theorem r_keep {m : Nat} (hm : m ≤ 8) (hu : oI M 23 = nI m) : pX11_keep M = some (sI (sA M 21 (ku (oA M 21) (oA M 6) m)) 23 (nI (min (m + 1) 8))) := by
  unfold pX11_keep
  by_cases c : m = 8
  · have h1 := r_shift_l M (oA M 21) fu 0 (by omega) (by rw [fu_eq]; omega)
    rw [cpn_0, sA_self] at h1
    have h2 := r_keep_l (sI (sA M 21 (cpn (oA M 21) (oA M 21) 0 88 616)) 23 (nI 7)) (m := 7) (by omega) (by rw [oI_sI, if_pos rfl]) (cpn (oA M 21) (oA M 21) 0 88 616) fu 0 (by omega) (by rw [fu_eq]; omega)
    rw [cpn_0] at h2
    have h3 : sA (sI (sA M 21 (cpn (oA M 21) (oA M 21) 0 88 616)) 23 (nI 7)) 21 (cpn (oA M 21) (oA M 21) 0 88 616) = sI (sA M 21 (cpn (oA M 21) (oA M 21) 0 88 616)) 23 (nI 7) := by rw [sI_sA, sA_sA]
    rw [h3, sI_sA, sA_sA] at h2
    simp (disch := omega) only [l_0, l_1, l_2, l_3, l_4, l_5, l_6, l_7, l_8, l_9, l_10, l_11, l_12, l_13, l_14, l_15, l_16, l_17, l_18, l_19, l_20, l_21, l_22, l_23, l_24, l_25, l_26, l_27, l_28, l_29, l_30, l_31, l_32, l_33, l_34, l_35, l_36, l_40, l_41, l_48, l_56, l_57, l_59, l_60, l_61, l_62, l_63, l_79, l_81, l_88, l_93, l_97, l_99, l_105, l_117, l_121, l_122, l_125, l_127, l_131, l_179, l_185, l_193, l_197, l_200, l_201, l_210, l_255, l_390, l_400, l_616, l_900, l_940, l_999, l_1000, l_1024, e_ltT, e_ltF, e_leT, e_leF, e_eqT, e_eqF, e_cl, e_in, e_gd, e_bd, e_ne, e_en, e_nlt, e_ltn, e_len, e_nle, e_nn, e_z0, e_z1, nI_add, pk_mul, e_sub, Nf_app, e_refl, e_reflN, reduceIte, ite_true_, ite_false_, oI_sI, oI_sL, oI_sW, oI_sA, oI_sJ, oI_sX, oL_sI, oL_sL, oL_sW, oL_sA, oL_sJ, oL_sX, oW_sI, oW_sL, oW_sW, oW_sA, oW_sJ, oW_sX, oA_sI, oA_sL, oA_sW, oA_sA, oA_sJ, oA_sX, oJ_sI, oJ_sL, oJ_sW, oJ_sA, oJ_sJ, oJ_sX, oX_sI, oX_sL, oX_sW, oX_sA, oX_sJ, oX_sX, Nat.reduceEqDiff, n10, n01, hu, h1, pX11_keep_j45, h2, sI_sI]
    rw [show min (m + 1) 8 = 8 by omega, ku, if_pos c]
  · have h2 := r_keep_l M (m := m) (by omega) hu (oA M 21) fu 0 (by omega) (by rw [fu_eq]; omega)
    rw [cpn_0, sA_self] at h2
    simp (disch := omega) only [l_0, l_1, l_2, l_3, l_4, l_5, l_6, l_7, l_8, l_9, l_10, l_11, l_12, l_13, l_14, l_15, l_16, l_17, l_18, l_19, l_20, l_21, l_22, l_23, l_24, l_25, l_26, l_27, l_28, l_29, l_30, l_31, l_32, l_33, l_34, l_35, l_36, l_40, l_41, l_48, l_56, l_57, l_59, l_60, l_61, l_62, l_63, l_79, l_81, l_88, l_93, l_97, l_99, l_105, l_117, l_121, l_122, l_125, l_127, l_131, l_179, l_185, l_193, l_197, l_200, l_201, l_210, l_255, l_390, l_400, l_616, l_900, l_940, l_999, l_1000, l_1024, e_ltT, e_ltF, e_leT, e_leF, e_eqT, e_eqF, e_cl, e_in, e_gd, e_bd, e_ne, e_en, e_nlt, e_ltn, e_len, e_nle, e_nn, e_z0, e_z1, nI_add, pk_mul, e_sub, Nf_app, e_refl, e_reflN, reduceIte, ite_true_, ite_false_, oI_sI, oI_sL, oI_sW, oI_sA, oI_sJ, oI_sX, oL_sI, oL_sL, oL_sW, oL_sA, oL_sJ, oL_sX, oW_sI, oW_sL, oW_sW, oW_sA, oW_sJ, oW_sX, oA_sI, oA_sL, oA_sW, oA_sA, oA_sJ, oA_sX, oJ_sI, oJ_sL, oJ_sW, oJ_sA, oJ_sJ, oJ_sX, oX_sI, oX_sL, oX_sW, oX_sA, oX_sJ, oX_sX, Nat.reduceEqDiff, n10, n01, hu, pX11_keep_j45, h2]
    rw [show min (m + 1) 8 = m + 1 by omega, ku, if_neg c]
theorem r_undo_l (M : Ob) {m : Nat} (hm : m < 8) (hu : oI M 23 = nI m) (f : Nat → Int32) : ∀ (n k : Nat), k ≤ 88 → 88 - k < n → pX11_undo_l26 n (nI k) (sA M 6 (cpn (oA M 21) f 121 (88 * m) k)) = some (sA M 6 (cpn (oA M 21) f 121 (88 * m) 88))
  | 0, _, _, h => by omega
  | n + 1, k, h1, h2 => by
    rw [pX11_undo_l26]
    by_cases hz : k = 88
    · subst hz; simp (disch := omega) only [l_0, l_1, l_2, l_3, l_4, l_5, l_6, l_7, l_8, l_9, l_10, l_11, l_12, l_13, l_14, l_15, l_16, l_17, l_18, l_19, l_20, l_21, l_22, l_23, l_24, l_25, l_26, l_27, l_28, l_29, l_30, l_31, l_32, l_33, l_34, l_35, l_36, l_40, l_41, l_48, l_56, l_57, l_59, l_60, l_61, l_62, l_63, l_79, l_81, l_88, l_93, l_97, l_99, l_105, l_117, l_121, l_122, l_125, l_127, l_131, l_179, l_185, l_193, l_197, l_200, l_201, l_210, l_255, l_390, l_400, l_616, l_900, l_940, l_999, l_1000, l_1024, e_ltT, e_ltF, e_leT, e_leF, e_eqT, e_eqF, e_cl, e_in, e_gd, e_bd, e_ne, e_en, e_nlt, e_ltn, e_len, e_nle, e_nn, e_z0, e_z1, nI_add, pk_mul, e_sub, Nf_app, e_refl, e_reflN, reduceIte, ite_true_, ite_false_, oA_self]
    · have ih := r_undo_l M hm hu f n (k + 1) (by omega) (by omega)
      have e := cpn_s (oA M 21) f 121 (88 * m) k
      simp (disch := omega) only [l_0, l_1, l_2, l_3, l_4, l_5, l_6, l_7, l_8, l_9, l_10, l_11, l_12, l_13, l_14, l_15, l_16, l_17, l_18, l_19, l_20, l_21, l_22, l_23, l_24, l_25, l_26, l_27, l_28, l_29, l_30, l_31, l_32, l_33, l_34, l_35, l_36, l_40, l_41, l_48, l_56, l_57, l_59, l_60, l_61, l_62, l_63, l_79, l_81, l_88, l_93, l_97, l_99, l_105, l_117, l_121, l_122, l_125, l_127, l_131, l_179, l_185, l_193, l_197, l_200, l_201, l_210, l_255, l_390, l_400, l_616, l_900, l_940, l_999, l_1000, l_1024, e_ltT, e_ltF, e_leT, e_leF, e_eqT, e_eqF, e_cl, e_in, e_gd, e_bd, e_ne, e_en, e_nlt, e_ltn, e_len, e_nle, e_nn, e_z0, e_z1, nI_add, pk_mul, e_sub, Nf_app, e_refl, e_reflN, reduceIte, ite_true_, ite_false_, oI_sI, oI_sL, oI_sW, oI_sA, oI_sJ, oI_sX, oL_sI, oL_sL, oL_sW, oL_sA, oL_sJ, oL_sX, oW_sI, oW_sL, oW_sW, oW_sA, oW_sJ, oW_sX, oA_sI, oA_sL, oA_sW, oA_sA, oA_sJ, oA_sX, oJ_sI, oJ_sL, oJ_sW, oJ_sA, oJ_sJ, oJ_sX, oX_sI, oX_sL, oX_sW, oX_sA, oX_sJ, oX_sX, Nat.reduceEqDiff, n10, n01, hu, sA_sA, e, ih]
theorem c_copy {g : Nat → Nat} {S Sa : Ob} (hW : WS N g) (hQ : WQ g) (hS : SR Sa g) : okS (pX6_copyFrom S Sa) (fun W => SR W g) := by
  have g1 := w_g1 hQ
  unfold pX6_copyFrom
  refine okS_some ?_
  refine ⟨fun p hp j hj => ?_, fun p hp => ?_, fun p hp => ?_, fun p hp => ?_, fun p hp => ?_, fun p hp => ?_, fun p hp => ?_, ?_, ?_, ?_, ?_, ?_⟩ <;> simp only [oI_sI, oI_sA, oA_sI, oA_sA, Nat.reduceEqDiff, n10, n01, reduceIte]
  · have := w_long hW hp
    unfold va_cpy
    rw [if_pos (by omega), Nat.zero_add, Nat.sub_zero]; exact s_0 hS p hp j hj
  · unfold va_cpy
    rw [if_pos (by omega), Nat.zero_add, Nat.sub_zero]; exact s_1 hS p hp
  · unfold va_cpy
    rw [if_pos (by omega), Nat.zero_add, Nat.sub_zero]; exact s_2 hS p hp
  · unfold va_cpy
    rw [if_pos (by omega), Nat.zero_add, Nat.sub_zero]; exact s_3 hS p hp
  · unfold va_cpy
    rw [if_pos (by omega), Nat.zero_add, Nat.sub_zero]; exact s_4 hS p hp
  · unfold va_cpy
    rw [if_pos (by omega), Nat.zero_add, Nat.sub_zero]; exact s_5 hS p hp
  · unfold va_cpy
    rw [if_pos (by omega), Nat.zero_add, Nat.sub_zero]; exact s_6 hS p hp
  · exact s_7 hS
  · exact s_8 hS
  · exact s_9 hS
  · exact s_10 hS
  · exact s_11 hS
/-- what is kept in the j-th place, as a row -/
def gJ (u : Nat → Int32) (g : Nat → Nat) (j : Nat) : Nat → Nat := fun k => if 121 ≤ k ∧ k < 209 then (u (88 * j + (k - 121))).toNatClampNeg else g k
/-- the past: m are kept; where the class's ring stands -/
def PR (N : Nat) (V5 : Ob) (K : Nat → Ob) (M : Ob) (g : Nat → Nat) : Prop :=
  ∃ m x : Nat, m ≤ 8 ∧ x < 8 ∧ oI M 23 = nI m ∧ oI V5 2 = nI m ∧ oI V5 1 = nI x ∧
    ∀ j, j < m → ∃ h : Nat → Nat, Sm g h ∧ WS N h ∧ h 121 ≤ 400 ∧ SR (K ((x + 8 - m + j) % 8)) h ∧ ∀ i, i < 88 → oA M 21 (88 * j + i) = nI (h (121 + i))
theorem c_keep {V5 : Ob} {K : Nat → Ob} {Mr : Ob} (hQ : WQ g) (hW : WS N g) (hd : g 121 ≤ 400) (hS : SR V g) (hP : PR N V5 K Mr g) (hM : oA Mr 6 = Nf g) :
    ∃ m, m ≤ 8 ∧ oI Mr 23 = nI m ∧ okS (pX2_keep V5 V K) (fun r => ∀ M', oI M' 23 = nI (min (m + 1) 8) → oA M' 21 = ku (oA Mr 21) (Nf g) m → PR N r.1 r.2 M' g) := by
  obtain ⟨m, x, hm, hx, e1, e2, e3, hj⟩ := hP
  refine ⟨m, hm, e1, ?_⟩
  obtain ⟨W, w1, w2⟩ := c_copy (S := K x) hW hQ hS
  unfold pX2_keep
  have hr1 : nI x + nI 1 - (nI x + nI 1) / nI 8 * nI 8 = nI ((x + 1) % 8) := by rw [nI_add, pk_rem (by omega) (by omega) (by omega)]
  simp (disch := omega) only [l_1, l_8, e3, e2, e_cl, e_in, e_gd, w1, e_bd, hr1, oI_sI, Nat.reduceEqDiff, n10, n01, reduceIte, nI_add]
  refine okS_some ?_
  intro M' f1 f2
  have hmin : (if nI 8 < nI (m + 1) then nI 8 else nI (m + 1)) = nI (min (m + 1) 8) := by
    by_cases c : m = 8
    · simp (disch := omega) only [l_0, l_1, l_2, l_3, l_4, l_5, l_6, l_7, l_8, l_9, l_10, l_11, l_12, l_13, l_14, l_15, l_16, l_17, l_18, l_19, l_20, l_21, l_22, l_23, l_24, l_25, l_26, l_27, l_28, l_29, l_30, l_31, l_32, l_33, l_34, l_35, l_36, l_40, l_41, l_48, l_56, l_57, l_59, l_60, l_61, l_62, l_63, l_79, l_81, l_88, l_93, l_97, l_99, l_105, l_117, l_121, l_122, l_125, l_127, l_131, l_179, l_185, l_193, l_197, l_200, l_201, l_210, l_255, l_390, l_400, l_616, l_900, l_940, l_999, l_1000, l_1024, e_ltT, e_ltF, e_leT, e_leF, e_eqT, e_eqF, e_cl, e_in, e_gd, e_bd, e_ne, e_en, e_nlt, e_ltn, e_len, e_nle, e_nn, e_z0, e_z1, nI_add, pk_mul, e_sub, Nf_app, e_refl, e_reflN, reduceIte, ite_true_, ite_false_, c]
    · rw [show min (m + 1) 8 = m + 1 by omega]
      simp (disch := omega) only [l_0, l_1, l_2, l_3, l_4, l_5, l_6, l_7, l_8, l_9, l_10, l_11, l_12, l_13, l_14, l_15, l_16, l_17, l_18, l_19, l_20, l_21, l_22, l_23, l_24, l_25, l_26, l_27, l_28, l_29, l_30, l_31, l_32, l_33, l_34, l_35, l_36, l_40, l_41, l_48, l_56, l_57, l_59, l_60, l_61, l_62, l_63, l_79, l_81, l_88, l_93, l_97, l_99, l_105, l_117, l_121, l_122, l_125, l_127, l_131, l_179, l_185, l_193, l_197, l_200, l_201, l_210, l_255, l_390, l_400, l_616, l_900, l_940, l_999, l_1000, l_1024, e_ltT, e_ltF, e_leT, e_leF, e_eqT, e_eqF, e_cl, e_in, e_gd, e_bd, e_ne, e_en, e_nlt, e_ltn, e_len, e_nle, e_nn, e_z0, e_z1, nI_add, pk_mul, e_sub, Nf_app, e_refl, e_reflN, reduceIte, ite_true_, ite_false_, hm]
  refine ⟨min (m + 1) 8, (x + 1) % 8, by omega, Nat.mod_lt _ (by omega), f1, ?_, ?_, ?_⟩
  · rw [oI_sI, if_pos rfl, hmin]
  · simp only [oI_sI, Nat.reduceEqDiff, n10, n01, reduceIte]
    rw [pk_rem (by omega) (by omega) (by omega)]
  · intro j hjm
    by_cases cl : j = min (m + 1) 8 - 1
    · refine ⟨g, Sm.refl _, hW, hd, ?_, fun i hi => ?_⟩
      · have : ((x + 1) % 8 + 8 - min (m + 1) 8 + j) % 8 = x := by omega
        show SR (va_up K x W _) g
        rw [this, uv_eq rfl]; exact w2
      · rw [f2, ku]
        by_cases c : m = 8
        · rw [if_pos c, cpn_in (by omega) (by omega), Nf_app, show 121 + (88 * j + i - 88 * 7) = 121 + i by omega]
        · rw [if_neg c, cpn_in (by omega) (by omega), Nf_app, show 121 + (88 * j + i - 88 * m) = 121 + i by omega]
    · by_cases c : m = 8
      · obtain ⟨h, a1, a2, a3, a4, a5⟩ := hj (j + 1) (by omega)
        refine ⟨h, a1, a2, a3, ?_, fun i hi => ?_⟩
        · have h1 : ((x + 1) % 8 + 8 - min (m + 1) 8 + j) % 8 = (x + 8 - m + (j + 1)) % 8 := by omega
          show SR (va_up K x W _) h
          rw [h1, uv_ne (by omega)]; exact a4
        · rw [f2, ku, if_pos c, cpn_out (by omega), cpn_in (by omega) (by omega), ← a5 i hi]
          congr 1; omega
      · obtain ⟨h, a1, a2, a3, a4, a5⟩ := hj j (by omega)
        refine ⟨h, a1, a2, a3, ?_, fun i hi => ?_⟩
        · have h1 : ((x + 1) % 8 + 8 - min (m + 1) 8 + j) % 8 = (x + 8 - m + j) % 8 := by omega
          show SR (va_up K x W _) h
          rw [h1, uv_ne (by omega)]; exact a4
        · rw [f2, ku, if_neg c, cpn_out (by omega)]; exact a5 i hi
end
