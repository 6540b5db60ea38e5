/-! a day -/
theorem e_dnf {i : Decidable (¬ False)} : @decide (¬ False) i = true := decide_eq_true id
theorem oA6 (M : Ob) (f : Nat → Int32) : oA (sA M 6 f) 6 = f := by rw [oA_sA, if_pos rfl]
def gZ (g : Nat → Nat) (n : Nat) : Nat → Nat := fun k => if 179 ≤ k ∧ k < 179 + n then 0 else g k
theorem gZ_0 (g : Nat → Nat) : gZ g 0 = g := funext fun k => if_neg (by omega)
theorem gZ_s (g : Nat → Nat) (n : Nat) : va_up (gZ g n) (179 + n) 0 = gZ g (n + 1) := funext fun k => by
  unfold gZ
  rw [up_app]
  by_cases h : k = 179 + n
  · rw [if_pos h, if_pos (by omega)]
  · rw [if_neg h]
    by_cases h2 : 179 ≤ k ∧ k < 179 + n
    · rw [if_pos h2, if_pos (by omega)]
    · rw [if_neg h2, if_neg (by omega)]
def gY (g : Nat → Nat) : Nat → (Nat → Nat)
  | 0 => g
  | k + 1 => if (gY g k 121 + 1) % gY g k (105 + k) = 0 ∧ gY g k (125 + gY g k (81 + k)) ≠ 8 then gC (gY g k) (gY g k (81 + k)) (gY g k (93 + k)) else gY g k
def gE (g : Nat → Nat) : Nat → Nat := va_up (gY (gZ g 6) (g 2)) 121 (g 121 + 1)
def gN : Nat → (Nat → Nat) → (Nat → Nat)
  | 0, g => g
  | n + 1, g => gN n (gE g)
section
variable {N : Nat} {g : Nat → Nat} {M V V2 : Ob}
theorem gZ_sm (n : Nat) (hn : n ≤ 6) : Sm g (gZ g n) := fun k hk => if_neg (by omega)
theorem ws_zero (hQ : WQ g) (hW : WS N g) : WS N (gZ g 6) := by
  obtain ⟨a0, a1, a2, a3, a4, a5⟩ := hW
  have e : ∀ j, (j < 179 ∨ 185 ≤ j) → gZ g 6 j = g j := fun j hj => if_neg (by omega)
  refine ⟨fun p hp => ?_, fun p hp j hj => ?_, fun p hp => ?_, ?_, fun t' h1 h2 => ?_, fun b hb_ => ?_⟩
  · rw [e _ (by omega)]; exact a0 p hp
  · rw [e _ (by omega)] at hj; have := a0 p hp; rw [e _ (by omega), e _ (by omega)]; exact a1 p hp j hj
  · by_cases h : p < 6
    · have : gZ g 6 (179 + p) = 0 := if_pos (by omega)
      omega
    · rw [e 1 (by omega)] at hp; exact absurd (w_g1 hQ) (by omega)
  · rw [sm_cong (h := fun t => g (185 + t)) (fun k hk => e _ (by omega))]; exact a3
  · rw [e _ (by omega)] at h1; rw [e _ (by omega)]; exact a4 t' h1 h2
  · rw [e _ (by omega)]; exact a5 b hb_
theorem gC_day {q t : Nat} (hq : q < 6) (hl : g (125 + q) < 8) : gC g q t 121 = g 121 := by
  unfold gC; rw [uv_ne (by omega), uv_ne (by omega)]
theorem gY_ok (hQ : WQ g) (hW : WS N g) : ∀ k, k ≤ g 2 → WS N (gY g k) ∧ Sm g (gY g k) ∧ gY g k 121 = g 121
  | 0, _ => ⟨hW, Sm.refl _, rfl⟩
  | k + 1, hk => by
    obtain ⟨a, b, c⟩ := gY_ok hQ hW k (by omega)
    have h2 := w_g2 hQ
    have h1 := w_g1 hQ
    have d := w_daily hQ (i := k) (by omega)
    have e1 := b (81 + k) (by omega)
    have e2 := b (93 + k) (by omega)
    have e0 := b 0 (by omega)
    rw [gY]
    split
    · next h =>
      have hl := w_long a (p := gY g k (81 + k)) (by omega)
      have hl2 : gY g k (125 + gY g k (81 + k)) < 8 := by omega
      exact ⟨ws_catch (WQ.of b hQ) a (by omega) (by omega) hl2, b.trans (gC_sm (by omega) hl2), (gC_day (by omega) hl2).trans c⟩
    · exact ⟨a, b, c⟩
theorem r_day0 : ∀ (n k : Nat), k ≤ 6 → 6 - k < n → pX11_day_l2 n (nI k) (sA M 6 (Nf (gZ g k))) = some (sA M 6 (Nf (gZ g 6)))
  | 0, _, _, h => by omega
  | n + 1, k, h1, h2 => by
    rw [pX11_day_l2]
    by_cases hz : k = 6
    · subst hz; simp (disch := omega) only [l_0, l_1, l_2, l_3, l_4, l_5, l_6, l_7, l_8, l_9, l_10, l_11, l_12, l_13, l_14, l_15, l_16, l_17, l_18, l_19, l_20, l_21, l_22, l_23, l_24, l_25, l_26, l_27, l_28, l_29, l_30, l_31, l_32, l_33, l_34, l_35, l_36, l_40, l_41, l_48, l_56, l_57, l_59, l_60, l_61, l_62, l_63, l_79, l_81, l_88, l_93, l_97, l_99, l_105, l_117, l_121, l_122, l_125, l_127, l_131, l_179, l_185, l_193, l_197, l_200, l_201, l_210, l_255, l_390, l_400, l_616, l_900, l_940, l_999, l_1000, l_1024, e_ltT, e_ltF, e_leT, e_leF, e_eqT, e_eqF, e_cl, e_in, e_gd, e_bd, e_ne, e_en, e_nlt, e_ltn, e_len, e_nle, e_nn, e_z0, e_z1, nI_add, pk_mul, e_sub, Nf_app, e_refl, e_reflN, reduceIte, ite_true_, ite_false_, oA6]
    · have ih := r_day0 n (k + 1) (by omega) (by omega)
      simp (disch := omega) only [l_0, l_1, l_2, l_3, l_4, l_5, l_6, l_7, l_8, l_9, l_10, l_11, l_12, l_13, l_14, l_15, l_16, l_17, l_18, l_19, l_20, l_21, l_22, l_23, l_24, l_25, l_26, l_27, l_28, l_29, l_30, l_31, l_32, l_33, l_34, l_35, l_36, l_40, l_41, l_48, l_56, l_57, l_59, l_60, l_61, l_62, l_63, l_79, l_81, l_88, l_93, l_97, l_99, l_105, l_117, l_121, l_122, l_125, l_127, l_131, l_179, l_185, l_193, l_197, l_200, l_201, l_210, l_255, l_390, l_400, l_616, l_900, l_940, l_999, l_1000, l_1024, e_ltT, e_ltF, e_leT, e_leF, e_eqT, e_eqF, e_cl, e_in, e_gd, e_bd, e_ne, e_en, e_nlt, e_ltn, e_len, e_nle, e_nn, e_z0, e_z1, nI_add, pk_mul, e_sub, Nf_app, e_refl, e_reflN, reduceIte, ite_true_, ite_false_, oI_sI, oI_sL, oI_sW, oI_sA, oI_sJ, oI_sX, oL_sI, oL_sL, oL_sW, oL_sA, oL_sJ, oL_sX, oW_sI, oW_sL, oW_sW, oW_sA, oW_sJ, oW_sX, oA_sI, oA_sL, oA_sW, oA_sA, oA_sJ, oA_sX, oJ_sI, oJ_sL, oJ_sW, oJ_sA, oJ_sJ, oJ_sX, oX_sI, oX_sL, oX_sW, oX_sA, oX_sJ, oX_sX, Nat.reduceEqDiff, n10, n01, uv_eq, uv_ne, up_Nf, sA_sA, oA6, gZ_s, ih]
theorem r_daily (hQ : WQ g) (hW : WS N g) (hd : g 121 < 1000000) : ∀ (n k : Nat), k ≤ g 2 → g 2 - k < n → pX11_day_l27 n (nI k) (sA M 6 (Nf (gY g k))) = some (sA M 6 (Nf (gY g (g 2))))
  | 0, _, _, h => by omega
  | n + 1, k, h1, h2 => by
    obtain ⟨a, b, c⟩ := gY_ok hQ hW k h1
    have g2 := w_g2 hQ
    have g1 := w_g1 hQ
    have e2 := b 2 (by omega)
    rw [pX11_day_l27]
    by_cases hz : k = g 2
    · simp (disch := omega) only [l_0, l_1, l_2, l_3, l_4, l_5, l_6, l_7, l_8, l_9, l_10, l_11, l_12, l_13, l_14, l_15, l_16, l_17, l_18, l_19, l_20, l_21, l_22, l_23, l_24, l_25, l_26, l_27, l_28, l_29, l_30, l_31, l_32, l_33, l_34, l_35, l_36, l_40, l_41, l_48, l_56, l_57, l_59, l_60, l_61, l_62, l_63, l_79, l_81, l_88, l_93, l_97, l_99, l_105, l_117, l_121, l_122, l_125, l_127, l_131, l_179, l_185, l_193, l_197, l_200, l_201, l_210, l_255, l_390, l_400, l_616, l_900, l_940, l_999, l_1000, l_1024, e_ltT, e_ltF, e_leT, e_leF, e_eqT, e_eqF, e_cl, e_in, e_gd, e_bd, e_ne, e_en, e_nlt, e_ltn, e_len, e_nle, e_nn, e_z0, e_z1, nI_add, pk_mul, e_sub, Nf_app, e_refl, e_reflN, reduceIte, ite_true_, ite_false_, oA6, e2]
      rw [hz]
    · have ih := r_daily hQ hW hd n (k + 1) (by omega) (by omega)
      have d := w_daily hQ (i := k) (by omega)
      have e81 := b (81 + k) (by omega)
      have e105 := b (105 + k) (by omega)
      rw [gY] at ih
      by_cases c1 : (gY g k 121 + 1) % gY g k (105 + k) = 0
      · have hl := w_long a (p := gY g k (81 + k)) (by omega)
        have hn := r_nest a (oA6 M (Nf (gY g k))) (q := gY g k (81 + k)) (by omega)
        by_cases c2 : gY g k (125 + gY g k (81 + k)) = 8
        · rw [if_neg (by omega)] at ih
          have hns : ns (gY g k) (gY g k (81 + k)) = true := decide_eq_true c2
          rw [hns] at hn
          simp (disch := omega) only [l_0, l_1, l_2, l_3, l_4, l_5, l_6, l_7, l_8, l_9, l_10, l_11, l_12, l_13, l_14, l_15, l_16, l_17, l_18, l_19, l_20, l_21, l_22, l_23, l_24, l_25, l_26, l_27, l_28, l_29, l_30, l_31, l_32, l_33, l_34, l_35, l_36, l_40, l_41, l_48, l_56, l_57, l_59, l_60, l_61, l_62, l_63, l_79, l_81, l_88, l_93, l_97, l_99, l_105, l_117, l_121, l_122, l_125, l_127, l_131, l_179, l_185, l_193, l_197, l_200, l_201, l_210, l_255, l_390, l_400, l_616, l_900, l_940, l_999, l_1000, l_1024, e_ltT, e_ltF, e_leT, e_leF, e_eqT, e_eqF, e_cl, e_in, e_gd, e_bd, e_ne, e_en, e_nlt, e_ltn, e_len, e_nle, e_nn, e_z0, e_z1, nI_add, pk_mul, e_sub, Nf_app, e_refl, e_reflN, reduceIte, ite_true_, ite_false_, oA6, e2, pk_rem, c1, hn, b01_t, e_dnf, ih]
        · rw [if_pos ⟨c1, c2⟩] at ih
          have hns : ns (gY g k) (gY g k (81 + k)) = false := decide_eq_false c2
          rw [hns] at hn
          have hc := r_catch a (oA6 M (Nf (gY g k))) (q := gY g k (81 + k)) (t := gY g k (93 + k)) (by omega) (by omega)
          rw [sA_sA] at hc
          simp (disch := omega) only [l_0, l_1, l_2, l_3, l_4, l_5, l_6, l_7, l_8, l_9, l_10, l_11, l_12, l_13, l_14, l_15, l_16, l_17, l_18, l_19, l_20, l_21, l_22, l_23, l_24, l_25, l_26, l_27, l_28, l_29, l_30, l_31, l_32, l_33, l_34, l_35, l_36, l_40, l_41, l_48, l_56, l_57, l_59, l_60, l_61, l_62, l_63, l_79, l_81, l_88, l_93, l_97, l_99, l_105, l_117, l_121, l_122, l_125, l_127, l_131, l_179, l_185, l_193, l_197, l_200, l_201, l_210, l_255, l_390, l_400, l_616, l_900, l_940, l_999, l_1000, l_1024, e_ltT, e_ltF, e_leT, e_leF, e_eqT, e_eqF, e_cl, e_in, e_gd, e_bd, e_ne, e_en, e_nlt, e_ltn, e_len, e_nle, e_nn, e_z0, e_z1, nI_add, pk_mul, e_sub, Nf_app, e_refl, e_reflN, reduceIte, ite_true_, ite_false_, oA6, e2, pk_rem, c1, hn, b01_f, e_dnf, hc, ih]
      · rw [if_neg (fun h => c1 h.1)] at ih
        have hlt := Nat.mod_lt (gY g k 121 + 1) (y := gY g k (105 + k)) (by omega)
        simp (disch := omega) only [l_0, l_1, l_2, l_3, l_4, l_5, l_6, l_7, l_8, l_9, l_10, l_11, l_12, l_13, l_14, l_15, l_16, l_17, l_18, l_19, l_20, l_21, l_22, l_23, l_24, l_25, l_26, l_27, l_28, l_29, l_30, l_31, l_32, l_33, l_34, l_35, l_36, l_40, l_41, l_48, l_56, l_57, l_59, l_60, l_61, l_62, l_63, l_79, l_81, l_88, l_93, l_97, l_99, l_105, l_117, l_121, l_122, l_125, l_127, l_131, l_179, l_185, l_193, l_197, l_200, l_201, l_210, l_255, l_390, l_400, l_616, l_900, l_940, l_999, l_1000, l_1024, e_ltT, e_ltF, e_leT, e_leF, e_eqT, e_eqF, e_cl, e_in, e_gd, e_bd, e_ne, e_en, e_nlt, e_ltn, e_len, e_nle, e_nn, e_z0, e_z1, nI_add, pk_mul, e_sub, Nf_app, e_refl, e_reflN, reduceIte, ite_true_, ite_false_, oA6, e2, pk_rem, e_dnf, ih]
theorem r_day (hQ : WQ g) (hW : WS N g) (hM : oA M 6 = Nf g) (hd : g 121 < 1000000) : pX11_day M = some (sA M 6 (Nf (gE g))) := by
  have z := r_day0 (M := M) (g := g) fu 0 (by omega) (by rw [fu_eq]; omega)
  rw [gZ_0, ← hM, sA_self] at z
  have e := gZ_sm (g := g) 6 (by omega)
  have e2 : gZ g 6 2 = g 2 := e 2 (by omega)
  have e121 : gZ g 6 121 = g 121 := if_neg (by omega)
  have g2 := w_g2 hQ
  have y := r_daily (M := M) (WQ.of e hQ) (ws_zero hQ hW) (by omega) fu 0 (by omega) (by rw [fu_eq]; omega)
  rw [e2] at y
  have c := (gY_ok (WQ.of e hQ) (ws_zero hQ hW) (g 2) (by omega)).2.2
  rw [gY] at y
  unfold pX11_day
  simp (disch := omega) only [l_0, l_1, l_2, l_3, l_4, l_5, l_6, l_7, l_8, l_9, l_10, l_11, l_12, l_13, l_14, l_15, l_16, l_17, l_18, l_19, l_20, l_21, l_22, l_23, l_24, l_25, l_26, l_27, l_28, l_29, l_30, l_31, l_32, l_33, l_34, l_35, l_36, l_40, l_41, l_48, l_56, l_57, l_59, l_60, l_61, l_62, l_63, l_79, l_81, l_88, l_93, l_97, l_99, l_105, l_117, l_121, l_122, l_125, l_127, l_131, l_179, l_185, l_193, l_197, l_200, l_201, l_210, l_255, l_390, l_400, l_616, l_900, l_940, l_999, l_1000, l_1024, e_ltT, e_ltF, e_leT, e_leF, e_eqT, e_eqF, e_cl, e_in, e_gd, e_bd, e_ne, e_en, e_nlt, e_ltn, e_len, e_nle, e_nn, e_z0, e_z1, nI_add, pk_mul, e_sub, Nf_app, e_refl, e_reflN, reduceIte, ite_true_, ite_false_, oI_sI, oI_sL, oI_sW, oI_sA, oI_sJ, oI_sX, oL_sI, oL_sL, oL_sW, oL_sA, oL_sJ, oL_sX, oW_sI, oW_sL, oW_sW, oW_sA, oW_sJ, oW_sX, oA_sI, oA_sL, oA_sW, oA_sA, oA_sJ, oA_sX, oJ_sI, oJ_sL, oJ_sW, oJ_sA, oJ_sJ, oJ_sX, oX_sI, oX_sL, oX_sW, oX_sA, oX_sJ, oX_sX, Nat.reduceEqDiff, n10, n01, uv_eq, uv_ne, up_Nf, sA_sA, z, y, oA6, c, e121]
  rfl
theorem ws_day (hQ : WQ g) (hW : WS N g) : WS N (gE g) ∧ Sm g (gE g) ∧ gE g 121 = g 121 + 1 := by
  have e := gZ_sm (g := g) 6 (by omega)
  have e2 : gZ g 6 2 = g 2 := e 2 (by omega)
  obtain ⟨a, b, c⟩ := gY_ok (WQ.of e hQ) (ws_zero hQ hW) (g 2) (by omega)
  refine ⟨WS.up1 (WQ.of b (WQ.of e hQ)) a (by omega), (e.trans b).trans (fun k hk => uv_ne (by omega)), uv_eq rfl⟩
theorem c_day0 (hQ : WQ g) (hR : QR V2 g) : ∀ (n k : Nat) (f : Nat → Int32), k ≤ g 1 → g 1 - k < n → (∀ p, p < k → f p = nI 0) → okS (pX6_letOneDayGo_l2 V2 n (nI k) (sA V 2 f)) (fun W => ∃ f', W = sA V 2 f' ∧ ∀ p, p < g 1 → f' p = nI 0)
  | 0, _, _, _, h, _ => by omega
  | n + 1, k, f, h1, h2, h3 => by
    have g1 := w_g1 hQ
    rw [pX6_letOneDayGo_l2]
    by_cases hz : k = g 1
    · simp (disch := omega) only [l_0, l_1, l_2, l_3, l_4, l_5, l_6, l_7, l_8, l_9, l_10, l_11, l_12, l_13, l_14, l_15, l_16, l_17, l_18, l_19, l_20, l_21, l_22, l_23, l_24, l_25, l_26, l_27, l_28, l_29, l_30, l_31, l_32, l_33, l_34, l_35, l_36, l_40, l_41, l_48, l_56, l_57, l_59, l_60, l_61, l_62, l_63, l_79, l_81, l_88, l_93, l_97, l_99, l_105, l_117, l_121, l_122, l_125, l_127, l_131, l_179, l_185, l_193, l_197, l_200, l_201, l_210, l_255, l_390, l_400, l_616, l_900, l_940, l_999, l_1000, l_1024, e_ltT, e_ltF, e_leT, e_leF, e_eqT, e_eqF, e_cl, e_in, e_gd, e_bd, e_ne, e_en, e_nlt, e_ltn, e_len, e_nle, e_nn, e_z0, e_z1, nI_add, pk_mul, e_sub, Nf_app, e_refl, e_reflN, reduceIte, ite_true_, ite_false_, q_4 hR]
      exact okS_some ⟨f, rfl, fun p hp => h3 p (by omega)⟩
    · have ih := c_day0 hQ hR n (k + 1) (va_up f k (nI 0)) (by omega) (by omega) (fun p hp => by
        by_cases e : p = k
        · rw [uv_eq e]
        · rw [uv_ne e]; exact h3 p (by omega))
      simp (disch := omega) only [l_0, l_1, l_2, l_3, l_4, l_5, l_6, l_7, l_8, l_9, l_10, l_11, l_12, l_13, l_14, l_15, l_16, l_17, l_18, l_19, l_20, l_21, l_22, l_23, l_24, l_25, l_26, l_27, l_28, l_29, l_30, l_31, l_32, l_33, l_34, l_35, l_36, l_40, l_41, l_48, l_56, l_57, l_59, l_60, l_61, l_62, l_63, l_79, l_81, l_88, l_93, l_97, l_99, l_105, l_117, l_121, l_122, l_125, l_127, l_131, l_179, l_185, l_193, l_197, l_200, l_201, l_210, l_255, l_390, l_400, l_616, l_900, l_940, l_999, l_1000, l_1024, e_ltT, e_ltF, e_leT, e_leF, e_eqT, e_eqF, e_cl, e_in, e_gd, e_bd, e_ne, e_en, e_nlt, e_ltn, e_len, e_nle, e_nn, e_z0, e_z1, nI_add, pk_mul, e_sub, Nf_app, e_refl, e_reflN, reduceIte, ite_true_, ite_false_, oI_sI, oI_sL, oI_sW, oI_sA, oI_sJ, oI_sX, oL_sI, oL_sL, oL_sW, oL_sA, oL_sJ, oL_sX, oW_sI, oW_sL, oW_sW, oW_sA, oW_sJ, oW_sX, oA_sI, oA_sL, oA_sW, oA_sA, oA_sJ, oA_sX, oJ_sI, oJ_sL, oJ_sW, oJ_sA, oJ_sJ, oJ_sX, oX_sI, oX_sL, oX_sW, oX_sA, oX_sJ, oX_sX, Nat.reduceEqDiff, n10, n01, q_4 hR, sA_sA]
      exact ih
theorem sr_zero (hQ : WQ g) (hW : WS N g) (hS : SR V g) {f : Nat → Int32} (hf : ∀ p, p < g 1 → f p = nI 0) : SR (sA V 2 f) (gZ g 6) := by
  have g1 := w_g1 hQ
  have e : ∀ j, (j < 179 ∨ 185 ≤ j) → gZ g 6 j = g j := fun j hj => if_neg (by omega)
  refine ⟨fun p hp j hj => ?_, fun p hp => ?_, fun p hp => ?_, fun p hp => ?_, fun p hp => ?_, fun p hp => ?_, fun p hp => ?_, ?_, ?_, ?_, ?_, ?_⟩ <;> simp only [oI_sI, oI_sA, oA_sI, oA_sA, Nat.reduceEqDiff, n10, n01, reduceIte]
  · rw [e _ (by omega)] at hj; have := w_long hW hp; rw [e _ (by omega)]; exact s_0 hS p hp j hj
  · rw [e _ (by omega)]; exact s_1 hS p hp
  · rw [e _ (by omega)] at hp
    have e3 : gZ g 6 (179 + p) = 0 := if_pos (by omega)
    rw [e3]; exact hf p hp
  · rw [e _ (by omega)]; exact s_3 hS p hp
  · rw [e _ (by omega)]; exact s_4 hS p hp
  · rw [e _ (by omega)]; exact s_5 hS p hp
  · rw [e _ (by omega)]; exact s_6 hS p hp
  · rw [s_7 hS, sm_cong (h := fun t => g (185 + t)) (fun k hk => e _ (by omega))]
  · rw [e _ (by omega)]; exact s_8 hS
  · rw [e _ (by omega)]; exact s_9 hS
  · rw [e _ (by omega)]; exact s_10 hS
  · rw [e _ (by omega)]; exact s_11 hS
theorem c_catch8 (hS : SR V g) {q t : Nat} (hq : q < 6) (hl : g (125 + q) = 8) : pX6_catchThing V (nI q) (nI t) = some V := by
  unfold pX6_catchThing
  simp (disch := omega) only [l_0, l_1, l_2, l_3, l_4, l_5, l_6, l_7, l_8, l_9, l_10, l_11, l_12, l_13, l_14, l_15, l_16, l_17, l_18, l_19, l_20, l_21, l_22, l_23, l_24, l_25, l_26, l_27, l_28, l_29, l_30, l_31, l_32, l_33, l_34, l_35, l_36, l_40, l_41, l_48, l_56, l_57, l_59, l_60, l_61, l_62, l_63, l_79, l_81, l_88, l_93, l_97, l_99, l_105, l_117, l_121, l_122, l_125, l_127, l_131, l_179, l_185, l_193, l_197, l_200, l_201, l_210, l_255, l_390, l_400, l_616, l_900, l_940, l_999, l_1000, l_1024, e_ltT, e_ltF, e_leT, e_leF, e_eqT, e_eqF, e_cl, e_in, e_gd, e_bd, e_ne, e_en, e_nlt, e_ltn, e_len, e_nle, e_nn, e_z0, e_z1, nI_add, pk_mul, e_sub, Nf_app, e_refl, e_reflN, reduceIte, ite_true_, ite_false_, s_1 hS]
theorem c_on (hQ : WQ g) (hR : QR V2 g) {k d : Nat} (hk : k < g 2) (hd : d < 2000000) : pX4_catchesOn V2 (nI k) (nI d) = some (nI (b01 (decide (d % g (105 + k) = 0)))) := by
  have g2 := w_g2 hQ
  have w := w_daily hQ hk
  have hlt := Nat.mod_lt d (y := g (105 + k)) (by omega)
  unfold pX4_catchesOn
  by_cases c : d % g (105 + k) = 0
  · simp (disch := omega) only [l_0, l_1, l_2, l_3, l_4, l_5, l_6, l_7, l_8, l_9, l_10, l_11, l_12, l_13, l_14, l_15, l_16, l_17, l_18, l_19, l_20, l_21, l_22, l_23, l_24, l_25, l_26, l_27, l_28, l_29, l_30, l_31, l_32, l_33, l_34, l_35, l_36, l_40, l_41, l_48, l_56, l_57, l_59, l_60, l_61, l_62, l_63, l_79, l_81, l_88, l_93, l_97, l_99, l_105, l_117, l_121, l_122, l_125, l_127, l_131, l_179, l_185, l_193, l_197, l_200, l_201, l_210, l_255, l_390, l_400, l_616, l_900, l_940, l_999, l_1000, l_1024, e_ltT, e_ltF, e_leT, e_leF, e_eqT, e_eqF, e_cl, e_in, e_gd, e_bd, e_ne, e_en, e_nlt, e_ltn, e_len, e_nle, e_nn, e_z0, e_z1, nI_add, pk_mul, e_sub, Nf_app, e_refl, e_reflN, reduceIte, ite_true_, ite_false_, q_10 hR, pk_rem, c, e_dnf]
    rw [decide_eq_true trivial]; rfl
  · simp (disch := omega) only [l_0, l_1, l_2, l_3, l_4, l_5, l_6, l_7, l_8, l_9, l_10, l_11, l_12, l_13, l_14, l_15, l_16, l_17, l_18, l_19, l_20, l_21, l_22, l_23, l_24, l_25, l_26, l_27, l_28, l_29, l_30, l_31, l_32, l_33, l_34, l_35, l_36, l_40, l_41, l_48, l_56, l_57, l_59, l_60, l_61, l_62, l_63, l_79, l_81, l_88, l_93, l_97, l_99, l_105, l_117, l_121, l_122, l_125, l_127, l_131, l_179, l_185, l_193, l_197, l_200, l_201, l_210, l_255, l_390, l_400, l_616, l_900, l_940, l_999, l_1000, l_1024, e_ltT, e_ltF, e_leT, e_leF, e_eqT, e_eqF, e_cl, e_in, e_gd, e_bd, e_ne, e_en, e_nlt, e_ltn, e_len, e_nle, e_nn, e_z0, e_z1, nI_add, pk_mul, e_sub, Nf_app, e_refl, e_reflN, reduceIte, ite_true_, ite_false_, q_10 hR, pk_rem, e_dnf]
    rw [decide_eq_false c]; rfl
theorem c_daily (hQ : WQ g) (hW : WS N g) (hR : QR V2 g) (hd : g 121 < 1000000) : ∀ (n k : Nat) {V : Ob}, k ≤ g 2 → g 2 - k < n → SR V (gY g k) → okS (pX6_letOneDayGo_l25 V2 n (nI k) V) (fun W => SR W (gY g (g 2)) ∧ oI W 12 = oI V 12)
  | 0, _, _, _, h, _ => by omega
  | n + 1, k, V, h1, h2, hS => by
    obtain ⟨a, b, c⟩ := gY_ok hQ hW k h1
    have g2 := w_g2 hQ
    have g1 := w_g1 hQ
    rw [pX6_letOneDayGo_l25]
    by_cases hz : k = g 2
    · simp (disch := omega) only [l_0, l_1, l_2, l_3, l_4, l_5, l_6, l_7, l_8, l_9, l_10, l_11, l_12, l_13, l_14, l_15, l_16, l_17, l_18, l_19, l_20, l_21, l_22, l_23, l_24, l_25, l_26, l_27, l_28, l_29, l_30, l_31, l_32, l_33, l_34, l_35, l_36, l_40, l_41, l_48, l_56, l_57, l_59, l_60, l_61, l_62, l_63, l_79, l_81, l_88, l_93, l_97, l_99, l_105, l_117, l_121, l_122, l_125, l_127, l_131, l_179, l_185, l_193, l_197, l_200, l_201, l_210, l_255, l_390, l_400, l_616, l_900, l_940, l_999, l_1000, l_1024, e_ltT, e_ltF, e_leT, e_leF, e_eqT, e_eqF, e_cl, e_in, e_gd, e_bd, e_ne, e_en, e_nlt, e_ltn, e_len, e_nle, e_nn, e_z0, e_z1, nI_add, pk_mul, e_sub, Nf_app, e_refl, e_reflN, reduceIte, ite_true_, ite_false_, q_7 hR]
      exact okS_some ⟨by rw [← hz]; exact hS, rfl⟩
    · have hk : k < g 2 := by omega
      have d := w_daily hQ hk
      have e81 := b (81 + k) (by omega)
      have e93 := b (93 + k) (by omega)
      have e105 := b (105 + k) (by omega)
      have ih := c_daily hQ hW hR hd n (k + 1) (by omega) (by omega) (V := V)
      have on := c_on hQ hR hk (d := g 121 + 1) (by omega)
      have q8 := q_8 hR k hk
      have q9 := q_9 hR k hk
      by_cases c1 : (g 121 + 1) % g (105 + k) = 0
      · rw [decide_eq_true c1, b01_t] at on
        by_cases c2 : gY g k (125 + gY g k (81 + k)) = 8
        · have e : gY g (k + 1) = gY g k := by rw [gY, if_neg (fun h => h.2 c2)]
          rw [e] at ih
          have cc := c_catch8 hS (q := g (81 + k)) (t := g (93 + k)) (by omega) (by rw [← e81]; exact c2)
          simp (disch := omega) only [l_0, l_1, l_2, l_3, l_4, l_5, l_6, l_7, l_8, l_9, l_10, l_11, l_12, l_13, l_14, l_15, l_16, l_17, l_18, l_19, l_20, l_21, l_22, l_23, l_24, l_25, l_26, l_27, l_28, l_29, l_30, l_31, l_32, l_33, l_34, l_35, l_36, l_40, l_41, l_48, l_56, l_57, l_59, l_60, l_61, l_62, l_63, l_79, l_81, l_88, l_93, l_97, l_99, l_105, l_117, l_121, l_122, l_125, l_127, l_131, l_179, l_185, l_193, l_197, l_200, l_201, l_210, l_255, l_390, l_400, l_616, l_900, l_940, l_999, l_1000, l_1024, e_ltT, e_ltF, e_leT, e_leF, e_eqT, e_eqF, e_cl, e_in, e_gd, e_bd, e_ne, e_en, e_nlt, e_ltn, e_len, e_nle, e_nn, e_z0, e_z1, nI_add, pk_mul, e_sub, Nf_app, e_refl, e_reflN, reduceIte, ite_true_, ite_false_, q_7 hR, s_8 hS, c, on, q8, q9, cc]
          exact ih hS
        · have e : gY g (k + 1) = gC (gY g k) (g (81 + k)) (g (93 + k)) := by rw [gY, if_pos ⟨by rw [c, e105]; exact c1, c2⟩, e81, e93]
          have hl := w_long a (p := g (81 + k)) (by omega)
          rw [e81] at c2
          obtain ⟨V', x1, hS', x2⟩ := c_catch a hS (q := g (81 + k)) (t := g (93 + k)) (by omega) (by omega)
          have ih2 := c_daily hQ hW hR hd n (k + 1) (by omega) (by omega) (V := V') (by rw [e]; exact hS')
          simp (disch := omega) only [l_0, l_1, l_2, l_3, l_4, l_5, l_6, l_7, l_8, l_9, l_10, l_11, l_12, l_13, l_14, l_15, l_16, l_17, l_18, l_19, l_20, l_21, l_22, l_23, l_24, l_25, l_26, l_27, l_28, l_29, l_30, l_31, l_32, l_33, l_34, l_35, l_36, l_40, l_41, l_48, l_56, l_57, l_59, l_60, l_61, l_62, l_63, l_79, l_81, l_88, l_93, l_97, l_99, l_105, l_117, l_121, l_122, l_125, l_127, l_131, l_179, l_185, l_193, l_197, l_200, l_201, l_210, l_255, l_390, l_400, l_616, l_900, l_940, l_999, l_1000, l_1024, e_ltT, e_ltF, e_leT, e_leF, e_eqT, e_eqF, e_cl, e_in, e_gd, e_bd, e_ne, e_en, e_nlt, e_ltn, e_len, e_nle, e_nn, e_z0, e_z1, nI_add, pk_mul, e_sub, Nf_app, e_refl, e_reflN, reduceIte, ite_true_, ite_false_, q_7 hR, s_8 hS, c, on, q8, q9, x1]
          rw [← x2]; exact ih2
      · rw [decide_eq_false c1, b01_f] at on
        have e : gY g (k + 1) = gY g k := by rw [gY, if_neg (fun h => c1 (by rw [← e105, ← c]; exact h.1))]
        rw [e] at ih
        simp (disch := omega) only [l_0, l_1, l_2, l_3, l_4, l_5, l_6, l_7, l_8, l_9, l_10, l_11, l_12, l_13, l_14, l_15, l_16, l_17, l_18, l_19, l_20, l_21, l_22, l_23, l_24, l_25, l_26, l_27, l_28, l_29, l_30, l_31, l_32, l_33, l_34, l_35, l_36, l_40, l_41, l_48, l_56, l_57, l_59, l_60, l_61, l_62, l_63, l_79, l_81, l_88, l_93, l_97, l_99, l_105, l_117, l_121, l_122, l_125, l_127, l_131, l_179, l_185, l_193, l_197, l_200, l_201, l_210, l_255, l_390, l_400, l_616, l_900, l_940, l_999, l_1000, l_1024, e_ltT, e_ltF, e_leT, e_leF, e_eqT, e_eqF, e_cl, e_in, e_gd, e_bd, e_ne, e_en, e_nlt, e_ltn, e_len, e_nle, e_nn, e_z0, e_z1, nI_add, pk_mul, e_sub, Nf_app, e_refl, e_reflN, reduceIte, ite_true_, ite_false_, q_7 hR, s_8 hS, c, on]
        exact ih hS
theorem c_day (hQ : WQ g) (hW : WS N g) (hR : QR V2 g) (hS : SR V g) (hd : g 121 < 1000000) : okS (pX6_letOneDayGo V V2) (fun W => SR W (gE g) ∧ oI W 12 = oI V 12) := by
  have g1 := w_g1 hQ
  have g2 := w_g2 hQ
  have e := gZ_sm (g := g) 6 (by omega)
  have e2 : gZ g 6 2 = g 2 := e 2 (by omega)
  have e121 : gZ g 6 121 = g 121 := if_neg (by omega)
  obtain ⟨W, x1, f, rfl, hf⟩ := c_day0 (V := V) hQ hR fu 0 (oA V 2) (by omega) (by rw [fu_eq]; omega) (fun p hp => by omega)
  rw [sA_self] at x1
  have hS1 := sr_zero hQ hW hS hf
  obtain ⟨W2, y1, hS2, y2⟩ := c_daily (WQ.of e hQ) (ws_zero hQ hW) (QR.of e hQ hR) (by omega) fu 0 (by omega) (by rw [fu_eq]; omega) hS1
  rw [e2] at hS2
  obtain ⟨a, b, c⟩ := gY_ok (WQ.of e hQ) (ws_zero hQ hW) (g 2) (by omega)
  unfold pX6_letOneDayGo
  simp (disch := omega) only [l_0, l_1, l_2, l_3, l_4, l_5, l_6, l_7, l_8, l_9, l_10, l_11, l_12, l_13, l_14, l_15, l_16, l_17, l_18, l_19, l_20, l_21, l_22, l_23, l_24, l_25, l_26, l_27, l_28, l_29, l_30, l_31, l_32, l_33, l_34, l_35, l_36, l_40, l_41, l_48, l_56, l_57, l_59, l_60, l_61, l_62, l_63, l_79, l_81, l_88, l_93, l_97, l_99, l_105, l_117, l_121, l_122, l_125, l_127, l_131, l_179, l_185, l_193, l_197, l_200, l_201, l_210, l_255, l_390, l_400, l_616, l_900, l_940, l_999, l_1000, l_1024, e_ltT, e_ltF, e_leT, e_leF, e_eqT, e_eqF, e_cl, e_in, e_gd, e_bd, e_ne, e_en, e_nlt, e_ltn, e_len, e_nle, e_nn, e_z0, e_z1, nI_add, pk_mul, e_sub, Nf_app, e_refl, e_reflN, reduceIte, ite_true_, ite_false_, x1, y1, s_8 hS2, c, e121]
  refine okS_some ⟨?_, ?_⟩
  · refine SR.up1 (WQ.of b (WQ.of e hQ)) hS2 (by omega) (fun j hj => ?_) ?_ ?_ ?_ ?_ ?_ <;> simp only [oI_sI, oI_sA, oA_sI, Nat.reduceEqDiff, n10, n01, reduceIte]
  · exact y2
/-! days -/
theorem gN_ok : ∀ (n : Nat) {g : Nat → Nat}, WQ g → WS N g → WS N (gN n g) ∧ Sm g (gN n g) ∧ gN n g 121 = g 121 + n
  | 0, g, _, hW => ⟨hW, Sm.refl _, rfl⟩
  | n + 1, g, hQ, hW => by
    obtain ⟨a, b, c⟩ := ws_day hQ hW
    obtain ⟨a2, b2, c2⟩ := gN_ok n (WQ.of b hQ) a
    rw [gN]
    exact ⟨a2, b.trans b2, by rw [c2, c]; omega⟩
theorem r_goesOn_l {n : Nat} (hn : n < 1000) : ∀ (f i d : Nat) {g : Nat → Nat} {M : Ob}, WQ g → WS N g → oA M 6 = Nf g → g 121 ≤ 400 → i ≤ n → d = min (n - i) (400 - g 121) → d < f → pX11_goesOn_l2 (nI n) f (nI i) M = some (nI (i + d), sA M 6 (Nf (gN d g)))
  | 0, _, _, _, _, _, _, _, _, _, _, h => by omega
  | f + 1, i, d, g, M, hQ, hW, hM, hd, hi, hm, hf => by
    rw [pX11_goesOn_l2]
    by_cases c : d = 0
    · subst c
      by_cases c2 : i = n
      · simp (disch := omega) only [l_0, l_1, l_2, l_3, l_4, l_5, l_6, l_7, l_8, l_9, l_10, l_11, l_12, l_13, l_14, l_15, l_16, l_17, l_18, l_19, l_20, l_21, l_22, l_23, l_24, l_25, l_26, l_27, l_28, l_29, l_30, l_31, l_32, l_33, l_34, l_35, l_36, l_40, l_41, l_48, l_56, l_57, l_59, l_60, l_61, l_62, l_63, l_79, l_81, l_88, l_93, l_97, l_99, l_105, l_117, l_121, l_122, l_125, l_127, l_131, l_179, l_185, l_193, l_197, l_200, l_201, l_210, l_255, l_390, l_400, l_616, l_900, l_940, l_999, l_1000, l_1024, e_ltT, e_ltF, e_leT, e_leF, e_eqT, e_eqF, e_cl, e_in, e_gd, e_bd, e_ne, e_en, e_nlt, e_ltn, e_len, e_nle, e_nn, e_z0, e_z1, nI_add, pk_mul, e_sub, Nf_app, e_refl, e_reflN, reduceIte, ite_true_, ite_false_, hM]
        rw [gN, ← hM, sA_self]; rfl
      · have : g 121 = 400 := by omega
        simp (disch := omega) only [l_0, l_1, l_2, l_3, l_4, l_5, l_6, l_7, l_8, l_9, l_10, l_11, l_12, l_13, l_14, l_15, l_16, l_17, l_18, l_19, l_20, l_21, l_22, l_23, l_24, l_25, l_26, l_27, l_28, l_29, l_30, l_31, l_32, l_33, l_34, l_35, l_36, l_40, l_41, l_48, l_56, l_57, l_59, l_60, l_61, l_62, l_63, l_79, l_81, l_88, l_93, l_97, l_99, l_105, l_117, l_121, l_122, l_125, l_127, l_131, l_179, l_185, l_193, l_197, l_200, l_201, l_210, l_255, l_390, l_400, l_616, l_900, l_940, l_999, l_1000, l_1024, e_ltT, e_ltF, e_leT, e_leF, e_eqT, e_eqF, e_cl, e_in, e_gd, e_bd, e_ne, e_en, e_nlt, e_ltn, e_len, e_nle, e_nn, e_z0, e_z1, nI_add, pk_mul, e_sub, Nf_app, e_refl, e_reflN, reduceIte, ite_true_, ite_false_, hM]
        rw [gN, ← hM, sA_self]; rfl
    · obtain ⟨d', rfl⟩ : ∃ d', d = d' + 1 := ⟨d - 1, by omega⟩
      obtain ⟨a, b, e⟩ := ws_day hQ hW
      have ih := r_goesOn_l hn f (i + 1) d' (g := gE g) (M := sA M 6 (Nf (gE g))) (WQ.of b hQ) a (oA6 _ _) (by omega) (by omega) (by omega) (by omega)
      rw [sA_sA] at ih
      have x : i + 1 + d' = i + (d' + 1) := by omega
      rw [x] at ih
      simp (disch := omega) only [l_0, l_1, l_2, l_3, l_4, l_5, l_6, l_7, l_8, l_9, l_10, l_11, l_12, l_13, l_14, l_15, l_16, l_17, l_18, l_19, l_20, l_21, l_22, l_23, l_24, l_25, l_26, l_27, l_28, l_29, l_30, l_31, l_32, l_33, l_34, l_35, l_36, l_40, l_41, l_48, l_56, l_57, l_59, l_60, l_61, l_62, l_63, l_79, l_81, l_88, l_93, l_97, l_99, l_105, l_117, l_121, l_122, l_125, l_127, l_131, l_179, l_185, l_193, l_197, l_200, l_201, l_210, l_255, l_390, l_400, l_616, l_900, l_940, l_999, l_1000, l_1024, e_ltT, e_ltF, e_leT, e_leF, e_eqT, e_eqF, e_cl, e_in, e_gd, e_bd, e_ne, e_en, e_nlt, e_ltn, e_len, e_nle, e_nn, e_z0, e_z1, nI_add, pk_mul, e_sub, Nf_app, e_refl, e_reflN, reduceIte, ite_true_, ite_false_, hM, r_day hQ hW hM (by omega), ih]
      rfl
theorem r_goesOn {n : Nat} (hn : n < 1000) {g : Nat → Nat} {M : Ob} (hQ : WQ g) (hW : WS N g) (hM : oA M 6 = Nf g) (hd : g 121 ≤ 400) : pX11_goesOn M (nI n) = some (nI (min n (400 - g 121)), sA M 6 (Nf (gN (min n (400 - g 121)) g))) := by
  have h := r_goesOn_l hn fu 0 (min n (400 - g 121)) hQ hW hM hd (by omega) (by omega) (by rw [fu_eq]; omega)
  unfold pX11_goesOn
  rw [Nat.zero_add] at h
  rw [l_0, h, e_bd]
theorem c_days_l {n : Nat} (hn : n < 1000) {V2 : Ob} : ∀ (f i : Nat) {g : Nat → Nat} {V : Ob}, WQ g → WS N g → QR V2 g → SR V g → g 121 + (n - i) < 1000000 → i ≤ n → n - i < f → okS (pX6_letDaysGo_l2 V2 (nI n) f (nI i) V) (fun W => SR W (gN (n - i) g) ∧ oI W 12 = oI V 12)
  | 0, _, _, _, _, _, _, _, _, _, h => by omega
  | f + 1, i, g, V, hQ, hW, hR, hS, hd, hi, hf => by
    rw [pX6_letDaysGo_l2]
    by_cases c : i = n
    · simp (disch := omega) only [l_0, l_1, l_2, l_3, l_4, l_5, l_6, l_7, l_8, l_9, l_10, l_11, l_12, l_13, l_14, l_15, l_16, l_17, l_18, l_19, l_20, l_21, l_22, l_23, l_24, l_25, l_26, l_27, l_28, l_29, l_30, l_31, l_32, l_33, l_34, l_35, l_36, l_40, l_41, l_48, l_56, l_57, l_59, l_60, l_61, l_62, l_63, l_79, l_81, l_88, l_93, l_97, l_99, l_105, l_117, l_121, l_122, l_125, l_127, l_131, l_179, l_185, l_193, l_197, l_200, l_201, l_210, l_255, l_390, l_400, l_616, l_900, l_940, l_999, l_1000, l_1024, e_ltT, e_ltF, e_leT, e_leF, e_eqT, e_eqF, e_cl, e_in, e_gd, e_bd, e_ne, e_en, e_nlt, e_ltn, e_len, e_nle, e_nn, e_z0, e_z1, nI_add, pk_mul, e_sub, Nf_app, e_refl, e_reflN, reduceIte, ite_true_, ite_false_, hR.1]
      refine okS_some ⟨?_, rfl⟩
      rw [c, Nat.sub_self, gN]; exact hS
    · obtain ⟨a, b, e⟩ := ws_day hQ hW
      obtain ⟨W, x1, hS', x2⟩ := c_day hQ hW hR hS (by omega)
      obtain ⟨W2, y1, hS2, y2⟩ := c_days_l hn f (i + 1) (g := gE g) (V := W) (WQ.of b hQ) a (QR.of b hQ hR) hS' (by omega) (by omega) (by omega)
      simp (disch := omega) only [l_0, l_1, l_2, l_3, l_4, l_5, l_6, l_7, l_8, l_9, l_10, l_11, l_12, l_13, l_14, l_15, l_16, l_17, l_18, l_19, l_20, l_21, l_22, l_23, l_24, l_25, l_26, l_27, l_28, l_29, l_30, l_31, l_32, l_33, l_34, l_35, l_36, l_40, l_41, l_48, l_56, l_57, l_59, l_60, l_61, l_62, l_63, l_79, l_81, l_88, l_93, l_97, l_99, l_105, l_117, l_121, l_122, l_125, l_127, l_131, l_179, l_185, l_193, l_197, l_200, l_201, l_210, l_255, l_390, l_400, l_616, l_900, l_940, l_999, l_1000, l_1024, e_ltT, e_ltF, e_leT, e_leF, e_eqT, e_eqF, e_cl, e_in, e_gd, e_bd, e_ne, e_en, e_nlt, e_ltn, e_len, e_nle, e_nn, e_z0, e_z1, nI_add, pk_mul, e_sub, Nf_app, e_refl, e_reflN, reduceIte, ite_true_, ite_false_, x1, y1]
      refine okS_some ⟨?_, y2.trans x2⟩
      have x : n - i = n - (i + 1) + 1 := by omega
      rw [x, gN]; exact hS2
theorem c_days {n : Nat} (hn : n < 1000) {V2 V : Ob} {g : Nat → Nat} (hQ : WQ g) (hW : WS N g) (hR : QR V2 g) (hS : SR V g) (hd : g 121 ≤ 1000) : okS (pX6_letDaysGo V V2 (nI n)) (fun W => SR W (gN n g) ∧ oI W 12 = oI V 12) := by
  obtain ⟨W, x1, hS', x2⟩ := c_days_l hn fu 0 hQ hW hR hS (by omega) (by omega) (by rw [fu_eq]; omega)
  rw [Nat.sub_zero] at hS'
  unfold pX6_letDaysGo
  rw [l_0, x1, e_bd]
  exact okS_some ⟨hS', x2⟩
end
