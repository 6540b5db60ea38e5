/-! a book: its lines lived, both sides -/
theorem sA_cm (S : Ob) {k l : Nat} (f h : Nat → Int32) (e : k ≠ l) : sA (sA S k f) l h = sA (sA S l h) k f := by
  unfold sA; congr 4; funext j; simp only [va_up]
  by_cases a : j = l
  · rw [if_pos a, if_neg (by omega), if_pos a]
  · rw [if_neg a, if_neg a]
theorem WS.mono {N N' : Nat} {g : Nat → Nat} (h : N ≤ N') (H : WS N g) : WS N' g := by
  obtain ⟨a0, a1, a2, a3, a4, a5⟩ := H
  exact ⟨a0, a1, a2, a3, a4, fun b hb => by have := a5 b hb; omega⟩
theorem BLn.of {g h : Nat → Nat} {a : Option Nat} {p q r0 r1 r2 : Int32} (e : Sm g h) (H : BLn g a p q r0 r1 r2) : BLn h a p q r0 r1 r2 := by
  unfold BLn at H ⊢
  rw [e 0 (by omega), e 1 (by omega), e 3 (by omega)]
  exact H
theorem r_l89 (l1 : Int32) : ∀ (n k : Nat) (M : Ob), k ≤ 4 → 4 - k < n → (∀ j, j < k → oA M 37 j = nI 0) → ∃ X, pX11_book_l89 l1 n (nI k) M = some (sA M 37 X) ∧ ∀ j, j < 4 → X j = nI 0
  | 0, k, M, h1, h2, _ => by omega
  | n + 1, k, M, h1, h2, h3 => by
    rw [pX11_book_l89]
    by_cases c : k = 4
    · subst c
      refine ⟨oA M 37, ?_, h3⟩
      simp (disch := omega) only [l_0, l_1, l_2, l_3, l_4, l_5, l_6, l_7, l_8, l_9, l_10, l_11, l_12, l_13, l_14, l_15, l_16, l_17, l_18, l_19, l_20, l_21, l_22, l_23, l_24, l_25, l_26, l_27, l_28, l_29, l_30, l_31, l_32, l_33, l_34, l_35, l_36, l_40, l_41, l_48, l_56, l_57, l_59, l_60, l_61, l_62, l_63, l_79, l_81, l_88, l_93, l_97, l_99, l_105, l_117, l_121, l_122, l_125, l_127, l_131, l_179, l_185, l_193, l_197, l_200, l_201, l_210, l_255, l_390, l_400, l_616, l_900, l_940, l_999, l_1000, l_1024, e_ltT, e_ltF, e_leT, e_leF, e_eqT, e_eqF, e_cl, e_in, e_gd, e_bd, e_ne, e_en, e_nlt, e_ltn, e_len, e_nle, e_nn, e_z0, e_z1, nI_add, pk_mul, e_sub, Nf_app, e_refl, e_reflN, reduceIte, ite_true_, ite_false_, sA_self]
    · obtain ⟨X, x1, x2⟩ := r_l89 l1 n (k + 1) (sA M 37 (va_up (oA M 37) k (nI 0))) (by omega) (by omega) (fun j hj => by
        rw [oA_self]
        by_cases e : j = k
        · rw [uv_eq e]
        · rw [uv_ne e]; exact h3 j (by omega))
      rw [sA_sA] at x1
      refine ⟨X, ?_, x2⟩
      simp (disch := omega) only [l_0, l_1, l_2, l_3, l_4, l_5, l_6, l_7, l_8, l_9, l_10, l_11, l_12, l_13, l_14, l_15, l_16, l_17, l_18, l_19, l_20, l_21, l_22, l_23, l_24, l_25, l_26, l_27, l_28, l_29, l_30, l_31, l_32, l_33, l_34, l_35, l_36, l_40, l_41, l_48, l_56, l_57, l_59, l_60, l_61, l_62, l_63, l_79, l_81, l_88, l_93, l_97, l_99, l_105, l_117, l_121, l_122, l_125, l_127, l_131, l_179, l_185, l_193, l_197, l_200, l_201, l_210, l_255, l_390, l_400, l_616, l_900, l_940, l_999, l_1000, l_1024, e_ltT, e_ltF, e_leT, e_leF, e_eqT, e_eqF, e_cl, e_in, e_gd, e_bd, e_ne, e_en, e_nlt, e_ltn, e_len, e_nle, e_nn, e_z0, e_z1, nI_add, pk_mul, e_sub, Nf_app, e_refl, e_reflN, reduceIte, ite_true_, ite_false_, x1]
/-- the reference's unit with another row and other tellings -/
def Mx (M : Ob) (g : Nat → Nat) (X : Nat → Int32) : Ob := sA (sA M 6 (Nf g)) 37 X
theorem Mx_6 (M : Ob) (g : Nat → Nat) (X : Nat → Int32) : oA (Mx M g X) 6 = Nf g := rfl
theorem Mx_37 (M : Ob) (g : Nat → Nat) (X : Nat → Int32) : oA (Mx M g X) 37 = X := rfl
theorem Mx_8 (M : Ob) (g : Nat → Nat) (X : Nat → Int32) : oA (Mx M g X) 8 = oA M 8 := rfl
theorem Mx_21 (M : Ob) (g : Nat → Nat) (X : Nat → Int32) : oA (Mx M g X) 21 = oA M 21 := rfl
theorem Mx_22 (M : Ob) (g : Nat → Nat) (X : Nat → Int32) : oA (Mx M g X) 22 = oA M 22 := rfl
theorem Mx_I (M : Ob) (g : Nat → Nat) (X : Nat → Int32) (k : Nat) : oI (Mx M g X) k = oI M k := rfl
theorem Mx_s37 (M : Ob) (g : Nat → Nat) (X Y : Nat → Int32) : sA (Mx M g X) 37 Y = Mx M g Y := sA_sA _ _ _ _
theorem Mx_s6 (M : Ob) (g h : Nat → Nat) (X : Nat → Int32) : sA (Mx M g X) 6 (Nf h) = Mx M h X := by
  unfold Mx
  rw [sA_cm _ _ _ (show (37 : Nat) ≠ 6 by omega), sA_sA]
section
variable {V2 M0 B : Ob} {m : Nat} {g0 : Nat → Nat}
theorem live_l (hQ : WQ g0) (hq : QR V2 g0) (hm : m ≤ 40) (h36 : oI M0 36 = nI m) (hB : ∀ i, i < m → BLn g0 (oX B 0 i) (oA B 1 i) (oA B 2 i) (oA M0 8 (3 * i)) (oA M0 8 (3 * i + 1)) (oA M0 8 (3 * i + 2))) (l1 : Int32) :
    ∀ (n i : Nat) {g : Nat → Nat} {N : Nat} {S Sb : Ob} {X : Nat → Int32}, i ≤ m → m < i + n → Sm g0 g → WS N g → g 121 ≤ 400 → SR Sb g → oX S 0 = oX B 0 → oA S 1 = oA B 1 → oA S 2 = oA B 2 → oI S 3 = nI m → oI S 5 = nI 0 → oI S 6 = nI i → X 0 = nI 0 → X 1 = nI i →
    ∃ S' Sb' g' X' w c, pX0_live_l12 V2 n (nI i) S Sb = some (S', Sb') ∧ pX11_book_l111 l1 n (-nI 1) (nI i) (Mx M0 g X) = some (if w = 0 then -nI 1 else nI c, Mx M0 g' X') ∧ w < 100 ∧ c ≤ 40 ∧ i ≤ c ∧ oI S' 5 = nI w ∧ oI S' 6 = nI c ∧ X' 0 = nI w ∧ X' 1 = nI c ∧ Sm g0 g' ∧ WS (N + 9 * (m - i)) g' ∧ g' 121 ≤ 400 ∧ SR Sb' g' ∧ (c = i → g' = g)
  | 0, i, g, N, S, Sb, X, h1, h2, _, _, _, _, _, _, _, _, _, _, _, _ => by omega
  | n + 1, i, g, N, S, Sb, X, h1, h2, hsm, hW, hd, hS, f0, f1, f2, f3, f5, f6, x0, x1 => by
    by_cases c : i = m
    · refine ⟨S, Sb, g, X, 0, i, ?_, ?_, by omega, by omega, Nat.le_refl _, f5, f6, x0, x1, hsm, WS.mono (by omega) hW, hd, hS, fun _ => rfl⟩
      · rw [pX0_live_l12, f3, c, if_pos (nI_le (Nat.le_refl _) (by omega))]
      · rw [pX11_book_l111, Mx_I, h36, c, if_pos (nI_le (Nat.le_refl _) (by omega)), if_pos rfl]
    · have hi : i < m := by omega
      have hl := BLn.of hsm (hB i hi)
      rw [← f0, ← f1, ← f2] at hl
      obtain ⟨w, g', Sb', y1, y2, y3, y4, y5, y6, y7, y8⟩ := d_line (M := Mx M0 g X) (WQ.of hsm hQ) hW hd (QR.of hsm hQ hq) hS rfl (show i < 40 by omega) hl
      rw [Mx_s6] at y3
      have ca : ¬ oI S 3 ≤ nI i := by rw [f3]; exact nI_ge hi (by omega)
      have cb : ¬ oI (Mx M0 g X) 36 ≤ nI i := by rw [Mx_I, h36]; exact nI_ge hi (by omega)
      have c0 : ¬ nI 0 ≤ -nI 1 := by rw [e_len (by omega)]; exact id
      rw [pX0_live_l12, if_neg ca, f5, if_pos l_0.symm, y2, e_bd, oI_sI, if_pos rfl, pX11_book_l111, if_neg cb, l_0, if_neg c0]
      by_cases cw : w = 0
      · subst cw
        obtain ⟨S', T', g2, X2, w2, c2, z1, z2, z3, z4, z5, z6, z7, z8, z9, z10, z11, z12, z13, z14⟩ := live_l hQ hq hm h36 hB l1 n (i + 1) (N := N + 9) (S := sI (sI S 5 (nI 0)) 6 (nI (i + 1))) (Sb := Sb') (X := va_up (va_up X 0 (nI 0)) 1 (nI (i + 1))) (by omega) (by omega) (hsm.trans y6) y5 y7 y4 f0 f1 f2 (by simp (disch := omega) only [l_0, l_1, l_2, l_3, l_4, l_5, l_6, l_7, l_8, l_9, l_10, l_11, l_12, l_13, l_14, l_15, l_16, l_17, l_18, l_19, l_20, l_21, l_22, l_23, l_24, l_25, l_26, l_27, l_28, l_29, l_30, l_31, l_32, l_33, l_34, l_35, l_36, l_40, l_41, l_48, l_56, l_57, l_59, l_60, l_61, l_62, l_63, l_79, l_81, l_88, l_93, l_97, l_99, l_105, l_117, l_121, l_122, l_125, l_127, l_131, l_179, l_185, l_193, l_197, l_200, l_201, l_210, l_255, l_390, l_400, l_616, l_900, l_940, l_999, l_1000, l_1024, e_ltT, e_ltF, e_leT, e_leF, e_eqT, e_eqF, e_cl, e_in, e_gd, e_bd, e_ne, e_en, e_nlt, e_ltn, e_len, e_nle, e_nn, e_z0, e_z1, nI_add, pk_mul, e_sub, Nf_app, e_refl, e_reflN, reduceIte, ite_true_, ite_false_, oI_sI, oI_sL, oI_sW, oI_sA, oI_sJ, oI_sX, oL_sI, oL_sL, oL_sW, oL_sA, oL_sJ, oL_sX, oW_sI, oW_sL, oW_sW, oW_sA, oW_sJ, oW_sX, oA_sI, oA_sL, oA_sW, oA_sA, oA_sJ, oA_sX, oJ_sI, oJ_sL, oJ_sW, oJ_sA, oJ_sJ, oJ_sX, oX_sI, oX_sL, oX_sW, oX_sA, oX_sJ, oX_sX, Nat.reduceEqDiff, n10, n01, f3]) (by simp (disch := omega) only [l_0, l_1, l_2, l_3, l_4, l_5, l_6, l_7, l_8, l_9, l_10, l_11, l_12, l_13, l_14, l_15, l_16, l_17, l_18, l_19, l_20, l_21, l_22, l_23, l_24, l_25, l_26, l_27, l_28, l_29, l_30, l_31, l_32, l_33, l_34, l_35, l_36, l_40, l_41, l_48, l_56, l_57, l_59, l_60, l_61, l_62, l_63, l_79, l_81, l_88, l_93, l_97, l_99, l_105, l_117, l_121, l_122, l_125, l_127, l_131, l_179, l_185, l_193, l_197, l_200, l_201, l_210, l_255, l_390, l_400, l_616, l_900, l_940, l_999, l_1000, l_1024, e_ltT, e_ltF, e_leT, e_leF, e_eqT, e_eqF, e_cl, e_in, e_gd, e_bd, e_ne, e_en, e_nlt, e_ltn, e_len, e_nle, e_nn, e_z0, e_z1, nI_add, pk_mul, e_sub, Nf_app, e_refl, e_reflN, reduceIte, ite_true_, ite_false_, oI_sI, oI_sL, oI_sW, oI_sA, oI_sJ, oI_sX, oL_sI, oL_sL, oL_sW, oL_sA, oL_sJ, oL_sX, oW_sI, oW_sL, oW_sW, oW_sA, oW_sJ, oW_sX, oA_sI, oA_sL, oA_sW, oA_sA, oA_sJ, oA_sX, oJ_sI, oJ_sL, oJ_sW, oJ_sA, oJ_sJ, oJ_sX, oX_sI, oX_sL, oX_sW, oX_sA, oX_sJ, oX_sX, Nat.reduceEqDiff, n10, n01, f3]) (by simp (disch := omega) only [l_0, l_1, l_2, l_3, l_4, l_5, l_6, l_7, l_8, l_9, l_10, l_11, l_12, l_13, l_14, l_15, l_16, l_17, l_18, l_19, l_20, l_21, l_22, l_23, l_24, l_25, l_26, l_27, l_28, l_29, l_30, l_31, l_32, l_33, l_34, l_35, l_36, l_40, l_41, l_48, l_56, l_57, l_59, l_60, l_61, l_62, l_63, l_79, l_81, l_88, l_93, l_97, l_99, l_105, l_117, l_121, l_122, l_125, l_127, l_131, l_179, l_185, l_193, l_197, l_200, l_201, l_210, l_255, l_390, l_400, l_616, l_900, l_940, l_999, l_1000, l_1024, e_ltT, e_ltF, e_leT, e_leF, e_eqT, e_eqF, e_cl, e_in, e_gd, e_bd, e_ne, e_en, e_nlt, e_ltn, e_len, e_nle, e_nn, e_z0, e_z1, nI_add, pk_mul, e_sub, Nf_app, e_refl, e_reflN, reduceIte, ite_true_, ite_false_, oI_sI, oI_sL, oI_sW, oI_sA, oI_sJ, oI_sX, oL_sI, oL_sL, oL_sW, oL_sA, oL_sJ, oL_sX, oW_sI, oW_sL, oW_sW, oW_sA, oW_sJ, oW_sX, oA_sI, oA_sL, oA_sW, oA_sA, oA_sJ, oA_sX, oJ_sI, oJ_sL, oJ_sW, oJ_sA, oJ_sJ, oJ_sX, oX_sI, oX_sL, oX_sW, oX_sA, oX_sJ, oX_sX, Nat.reduceEqDiff, n10, n01, f3]) (by rw [uv_ne (by omega), uv_eq rfl]) (uv_eq rfl)
        refine ⟨S', T', g2, X2, w2, c2, ?_, ?_, z3, z4, by omega, z6, z7, z8, z9, z10, WS.mono (by omega) z11, z12, z13, fun h => by omega⟩
        · rw [if_pos rfl]
          simp (disch := omega) only [l_0, l_1, l_2, l_3, l_4, l_5, l_6, l_7, l_8, l_9, l_10, l_11, l_12, l_13, l_14, l_15, l_16, l_17, l_18, l_19, l_20, l_21, l_22, l_23, l_24, l_25, l_26, l_27, l_28, l_29, l_30, l_31, l_32, l_33, l_34, l_35, l_36, l_40, l_41, l_48, l_56, l_57, l_59, l_60, l_61, l_62, l_63, l_79, l_81, l_88, l_93, l_97, l_99, l_105, l_117, l_121, l_122, l_125, l_127, l_131, l_179, l_185, l_193, l_197, l_200, l_201, l_210, l_255, l_390, l_400, l_616, l_900, l_940, l_999, l_1000, l_1024, e_ltT, e_ltF, e_leT, e_leF, e_eqT, e_eqF, e_cl, e_in, e_gd, e_bd, e_ne, e_en, e_nlt, e_ltn, e_len, e_nle, e_nn, e_z0, e_z1, nI_add, pk_mul, e_sub, Nf_app, e_refl, e_reflN, reduceIte, ite_true_, ite_false_, oI_sI, oI_sL, oI_sW, oI_sA, oI_sJ, oI_sX, oL_sI, oL_sL, oL_sW, oL_sA, oL_sJ, oL_sX, oW_sI, oW_sL, oW_sW, oW_sA, oW_sJ, oW_sX, oA_sI, oA_sL, oA_sW, oA_sA, oA_sJ, oA_sX, oJ_sI, oJ_sL, oJ_sW, oJ_sA, oJ_sJ, oJ_sX, oX_sI, oX_sL, oX_sW, oX_sA, oX_sJ, oX_sX, Nat.reduceEqDiff, n10, n01, f6]
          exact z1
        · have x1' : va_up X 0 (nI 0) 1 = nI i := by rw [uv_ne (by omega)]; exact x1
          simp (disch := omega) only [l_0, l_1, l_2, l_3, l_4, l_5, l_6, l_7, l_8, l_9, l_10, l_11, l_12, l_13, l_14, l_15, l_16, l_17, l_18, l_19, l_20, l_21, l_22, l_23, l_24, l_25, l_26, l_27, l_28, l_29, l_30, l_31, l_32, l_33, l_34, l_35, l_36, l_40, l_41, l_48, l_56, l_57, l_59, l_60, l_61, l_62, l_63, l_79, l_81, l_88, l_93, l_97, l_99, l_105, l_117, l_121, l_122, l_125, l_127, l_131, l_179, l_185, l_193, l_197, l_200, l_201, l_210, l_255, l_390, l_400, l_616, l_900, l_940, l_999, l_1000, l_1024, e_ltT, e_ltF, e_leT, e_leF, e_eqT, e_eqF, e_cl, e_in, e_gd, e_bd, e_ne, e_en, e_nlt, e_ltn, e_len, e_nle, e_nn, e_z0, e_z1, nI_add, pk_mul, e_sub, Nf_app, e_refl, e_reflN, reduceIte, ite_true_, ite_false_, Mx_8, y3, Mx_37, Mx_s37, uv_eq, x1']
          exact z2
      · have g'e := y8 cw
        subst g'e
        obtain ⟨n', rfl⟩ : ∃ n', n = n' + 1 := ⟨n - 1, by omega⟩
        have nz : ¬ nI w = nI 0 := fun e => cw ((nI_eq (by omega) (by omega)).mp e)
        refine ⟨sI S 5 (nI w), Sb', g', va_up X 0 (nI w), w, i, ?_, ?_, y1, by omega, Nat.le_refl _, by simp (disch := omega) only [l_0, l_1, l_2, l_3, l_4, l_5, l_6, l_7, l_8, l_9, l_10, l_11, l_12, l_13, l_14, l_15, l_16, l_17, l_18, l_19, l_20, l_21, l_22, l_23, l_24, l_25, l_26, l_27, l_28, l_29, l_30, l_31, l_32, l_33, l_34, l_35, l_36, l_40, l_41, l_48, l_56, l_57, l_59, l_60, l_61, l_62, l_63, l_79, l_81, l_88, l_93, l_97, l_99, l_105, l_117, l_121, l_122, l_125, l_127, l_131, l_179, l_185, l_193, l_197, l_200, l_201, l_210, l_255, l_390, l_400, l_616, l_900, l_940, l_999, l_1000, l_1024, e_ltT, e_ltF, e_leT, e_leF, e_eqT, e_eqF, e_cl, e_in, e_gd, e_bd, e_ne, e_en, e_nlt, e_ltn, e_len, e_nle, e_nn, e_z0, e_z1, nI_add, pk_mul, e_sub, Nf_app, e_refl, e_reflN, reduceIte, ite_true_, ite_false_, oI_sI, oI_sL, oI_sW, oI_sA, oI_sJ, oI_sX, oL_sI, oL_sL, oL_sW, oL_sA, oL_sJ, oL_sX, oW_sI, oW_sL, oW_sW, oW_sA, oW_sJ, oW_sX, oA_sI, oA_sL, oA_sW, oA_sA, oA_sJ, oA_sX, oJ_sI, oJ_sL, oJ_sW, oJ_sA, oJ_sJ, oJ_sX, oX_sI, oX_sL, oX_sW, oX_sA, oX_sJ, oX_sX, Nat.reduceEqDiff, n10, n01, f5], by simp (disch := omega) only [l_0, l_1, l_2, l_3, l_4, l_5, l_6, l_7, l_8, l_9, l_10, l_11, l_12, l_13, l_14, l_15, l_16, l_17, l_18, l_19, l_20, l_21, l_22, l_23, l_24, l_25, l_26, l_27, l_28, l_29, l_30, l_31, l_32, l_33, l_34, l_35, l_36, l_40, l_41, l_48, l_56, l_57, l_59, l_60, l_61, l_62, l_63, l_79, l_81, l_88, l_93, l_97, l_99, l_105, l_117, l_121, l_122, l_125, l_127, l_131, l_179, l_185, l_193, l_197, l_200, l_201, l_210, l_255, l_390, l_400, l_616, l_900, l_940, l_999, l_1000, l_1024, e_ltT, e_ltF, e_leT, e_leF, e_eqT, e_eqF, e_cl, e_in, e_gd, e_bd, e_ne, e_en, e_nlt, e_ltn, e_len, e_nle, e_nn, e_z0, e_z1, nI_add, pk_mul, e_sub, Nf_app, e_refl, e_reflN, reduceIte, ite_true_, ite_false_, oI_sI, oI_sL, oI_sW, oI_sA, oI_sJ, oI_sX, oL_sI, oL_sL, oL_sW, oL_sA, oL_sJ, oL_sX, oW_sI, oW_sL, oW_sW, oW_sA, oW_sJ, oW_sX, oA_sI, oA_sL, oA_sW, oA_sA, oA_sJ, oA_sX, oJ_sI, oJ_sL, oJ_sW, oJ_sA, oJ_sJ, oJ_sX, oX_sI, oX_sL, oX_sW, oX_sA, oX_sJ, oX_sX, Nat.reduceEqDiff, n10, n01, f6], uv_eq rfl, by rw [uv_ne (by omega)]; exact x1, hsm, WS.mono (by omega) hW, hd, y4, fun _ => rfl⟩
        · rw [if_neg nz, pX0_live_l12]
          by_cases cc : oI (sI S 5 (nI w)) 3 ≤ nI i + 1
          · rw [if_pos cc]
          · rw [if_neg cc, oI_sI, if_pos rfl, if_neg (show ¬ nI w = (0 : Int32) from nz)]
        · have wp : ¬ nI w ≤ nI 0 := nI_ge (by omega) (by omega)
          simp (disch := omega) only [l_0, l_1, l_2, l_3, l_4, l_5, l_6, l_7, l_8, l_9, l_10, l_11, l_12, l_13, l_14, l_15, l_16, l_17, l_18, l_19, l_20, l_21, l_22, l_23, l_24, l_25, l_26, l_27, l_28, l_29, l_30, l_31, l_32, l_33, l_34, l_35, l_36, l_40, l_41, l_48, l_56, l_57, l_59, l_60, l_61, l_62, l_63, l_79, l_81, l_88, l_93, l_97, l_99, l_105, l_117, l_121, l_122, l_125, l_127, l_131, l_179, l_185, l_193, l_197, l_200, l_201, l_210, l_255, l_390, l_400, l_616, l_900, l_940, l_999, l_1000, l_1024, e_ltT, e_ltF, e_leT, e_leF, e_eqT, e_eqF, e_cl, e_in, e_gd, e_bd, e_ne, e_en, e_nlt, e_ltn, e_len, e_nle, e_nn, e_z0, e_z1, nI_add, pk_mul, e_sub, Nf_app, e_refl, e_reflN, reduceIte, ite_true_, ite_false_, Mx_8, y3, Mx_37, Mx_s37, uv_eq, if_neg wp, if_neg cw]
          rw [pX11_book_l111]
          by_cases cc : oI (Mx M0 g' (va_up X 0 (nI w))) 36 ≤ nI (i + 1)
          · rw [if_pos cc]
          · rw [if_neg cc, if_pos (show (0 : Int32) ≤ nI i from nI_le (Nat.zero_le i) (by omega))]
end
