/-! the outside knot comes out -/
def gB0 (g : Nat → Nat) : Nat := sm (fun t => g (185 + t)) 8
def gI (g : Nat → Nat) (q : Nat) : Nat := if 10 - gB0 g < kn g q (g (125 + q)) then 10 - gB0 g else kn g q (g (125 + q))
def gT (g : Nat → Nat) (q : Nat) : Nat := g (131 + 8 * q + (g (125 + q) - 1))
def gD (g : Nat → Nat) (q i : Nat) : Nat → Nat :=
  va_up (va_up (va_up g (185 + gT g q) (g (185 + gT g q) + i)) 124 (g 124 + (kn g q (g (125 + q)) - i))) (125 + q) (g (125 + q) - kn g q (g (125 + q)))
section
variable {N : Nat} {g : Nat → Nat} {M V V2 : Ob}
theorem gI_le (hW : WS N g) (q : Nat) : gI g q ≤ kn g q (g (125 + q)) ∧ gB0 g + gI g q ≤ 10 := by
  have h : gB0 g ≤ 10 := hW.2.2.2.1
  unfold gI; split <;> omega
theorem gD_at {q i : Nat} (hq : q < 6) (ht : gT g q < 8) : (∀ k, (k < 124 ∨ (131 ≤ k ∧ k < 185) ∨ 193 ≤ k) → gD g q i k = g k) ∧ (∀ p, p < 6 → gD g q i (125 + p) = if p = q then g (125 + q) - kn g q (g (125 + q)) else g (125 + p)) ∧ gD g q i 124 = g 124 + (kn g q (g (125 + q)) - i) ∧ (∀ t, t < 8 → gD g q i (185 + t) = va_up (fun t => g (185 + t)) (gT g q) (g (185 + gT g q) + i) t) := by
  unfold gD
  refine ⟨fun k hk => ?_, fun p hp => ?_, ?_, fun t ht2 => ?_⟩
  · rw [uv_ne (by omega), uv_ne (by omega), uv_ne (by omega)]
  · by_cases h : p = q
    · subst h; rw [uv_eq rfl, if_pos rfl]
    · rw [uv_ne (by omega), uv_ne (by omega), uv_ne (by omega), if_neg h]
  · rw [uv_ne (by omega), uv_eq rfl]
  · rw [uv_ne (by omega), uv_ne (by omega)]
    by_cases h : t = gT g q
    · rw [uv_eq (by omega), uv_eq h]
    · rw [uv_ne (by omega), uv_ne h]
theorem gD_bag {q i : Nat} (hq : q < 6) (ht : gT g q < 8) : gB0 (gD g q i) = gB0 g + i := by
  unfold gB0
  rw [sm_cong (h := va_up (fun t => g (185 + t)) (gT g q) (g (185 + gT g q) + i)) (fun t h => (gD_at hq ht).2.2.2 t h)]
  have h : sm (va_up (fun t => g (185 + t)) (gT g q) (g (185 + gT g q) + i)) 8 + g (185 + gT g q) = sm (fun t => g (185 + t)) 8 + (g (185 + gT g q) + i) := sm_up (fun t => g (185 + t)) (gT g q) (g (185 + gT g q) + i) (n := 8) ht
  omega
theorem gD_sm {q i : Nat} (hq : q < 6) (ht : gT g q < 8) : Sm g (gD g q i) := fun k hk => (gD_at hq ht).1 k (by omega)
theorem gT_lt (hW : WS N g) {q : Nat} (hq : q < 6) (hl : 0 < g (125 + q)) : gT g q < g 0 := w_th hW hq (by omega)
theorem ws_draw (hQ : WQ g) (hW : WS N g) {q i : Nat} (hq : q < 6) (hl : 0 < g (125 + q)) (hi : gB0 g + i ≤ 10) : WS N (gD g q i) := by
  have h0 := w_g0 hQ
  have ht := gT_lt hW hq hl
  have ht8 : gT g q < 8 := by omega
  obtain ⟨b1, b2, b3, b4⟩ := gD_at (g := g) (i := i) hq ht8
  have b5 := gD_bag (g := g) (i := i) hq ht8
  obtain ⟨a0, a1, a2, a3, a4, a5⟩ := hW
  refine ⟨fun p hp => ?_, fun p hp k hk => ?_, fun p hp => ?_, ?_, fun t' h1 h2 => ?_, fun b hb_ => ?_⟩
  · rw [b2 p hp]
    have e1 := a0 p hp
    have e2 := a0 q hq
    split <;> omega
  · rw [b2 p hp] at hk
    rw [b1 _ (by have := a0 p hp; have := a0 q hq; split at hk <;> omega), b1 0 (by omega)]
    refine a1 p hp k ?_
    split at hk
    · next h => subst h; omega
    · exact hk
  · rw [b1 1 (by omega)] at hp
    have := w_g1 hQ
    rw [b1 _ (by omega), b1 (21 + p) (by omega)]; exact a2 p hp
  · show gB0 (gD g q i) ≤ 10
    omega
  · rw [b1 0 (by omega)] at h1
    rw [b4 t' h2, uv_ne (by omega)]; exact a4 t' h1 h2
  · rw [b1 _ (by omega)]; exact a5 b hb_
theorem r_draw1 (hQ : WQ g) (hW : WS N g) (hM : oA M 6 = Nf g) {q i : Nat} (hq : q < 6) (hl : 0 < g (125 + q)) (hi : i ≤ kn g q (g (125 + q))) : pX11_draws_j35 M (nI q) (nI (gT g q)) (nI (kn g q (g (125 + q)))) (nI i) = some (sA M 6 (Nf (gD g q i))) := by
  have h0 := w_g0 hQ
  have hL := w_long hW hq
  have ht := gT_lt hW hq hl
  have hk := kn_le g q (g (125 + q))
  unfold pX11_draws_j35
  simp (disch := omega) only [l_0, l_1, l_2, l_3, l_4, l_5, l_6, l_7, l_8, l_9, l_10, l_11, l_12, l_13, l_14, l_15, l_16, l_17, l_18, l_19, l_20, l_21, l_22, l_23, l_24, l_25, l_26, l_27, l_28, l_29, l_30, l_31, l_32, l_33, l_34, l_35, l_36, l_40, l_41, l_48, l_56, l_57, l_59, l_60, l_61, l_62, l_63, l_79, l_81, l_88, l_93, l_97, l_99, l_105, l_117, l_121, l_122, l_125, l_127, l_131, l_179, l_185, l_193, l_197, l_200, l_201, l_210, l_255, l_390, l_400, l_616, l_900, l_940, l_999, l_1000, l_1024, e_ltT, e_ltF, e_leT, e_leF, e_eqT, e_eqF, e_cl, e_in, e_gd, e_bd, e_ne, e_en, e_nlt, e_ltn, e_len, e_nle, e_nn, e_z0, e_z1, nI_add, pk_mul, e_sub, Nf_app, e_refl, e_reflN, reduceIte, ite_true_, ite_false_, oI_sI, oI_sL, oI_sW, oI_sA, oI_sJ, oI_sX, oL_sI, oL_sL, oL_sW, oL_sA, oL_sJ, oL_sX, oW_sI, oW_sL, oW_sW, oW_sA, oW_sJ, oW_sX, oA_sI, oA_sL, oA_sW, oA_sA, oA_sJ, oA_sX, oJ_sI, oJ_sL, oJ_sW, oJ_sA, oJ_sJ, oJ_sX, oX_sI, oX_sL, oX_sW, oX_sA, oX_sJ, oX_sX, Nat.reduceEqDiff, n10, n01, uv_eq, uv_ne, up_Nf, sA_sA, hM]
  rfl
theorem r_from0 (hW : WS N g) (hM : oA M 6 = Nf g) {q : Nat} (hq : q < 6) (hl : 0 < g (125 + q)) : pX11_fromOutside M (nI q) (nI 0) = some (nI (gT g q)) := by
  rw [r_from hW hM hq hl, Nat.sub_zero]; rfl
theorem r_drawB (hQ : WQ g) (hW : WS N g) (hM : oA M 6 = Nf g) {q : Nat} (hq : q < 6) (hl : 0 < g (125 + q)) : pX11_draws M (nI q) (nI 1) = some (sA M 6 (Nf (gD g q (gI g q)))) := by
  have hL := w_long hW hq
  have hk := kn_le g q (g (125 + q))
  have hB : gB0 g ≤ 10 := hW.2.2.2.1
  have h1 := r_knot hQ hW hM hq hl
  rw [Nat.sub_zero] at h1
  have h2 := r_draw1 hQ hW hM hq hl (gI_le hW q).1
  have h3 : pX11_bagged M = some (nI (gB0 g)) := r_bag hM
  unfold pX11_draws
  have h4 : pX11_lesser (nI (kn g q (g (125 + q)))) (nI (10 - gB0 g)) = some (nI (gI g q)) := by
    unfold pX11_lesser gI
    by_cases h : 10 - gB0 g < kn g q (g (125 + q))
    · rw [if_pos h]; simp (disch := omega) only [l_0, l_1, l_2, l_3, l_4, l_5, l_6, l_7, l_8, l_9, l_10, l_11, l_12, l_13, l_14, l_15, l_16, l_17, l_18, l_19, l_20, l_21, l_22, l_23, l_24, l_25, l_26, l_27, l_28, l_29, l_30, l_31, l_32, l_33, l_34, l_35, l_36, l_40, l_41, l_48, l_56, l_57, l_59, l_60, l_61, l_62, l_63, l_79, l_81, l_88, l_93, l_97, l_99, l_105, l_117, l_121, l_122, l_125, l_127, l_131, l_179, l_185, l_193, l_197, l_200, l_201, l_210, l_255, l_390, l_400, l_616, l_900, l_940, l_999, l_1000, l_1024, e_ltT, e_ltF, e_leT, e_leF, e_eqT, e_eqF, e_cl, e_in, e_gd, e_bd, e_ne, e_en, e_nlt, e_ltn, e_len, e_nle, e_nn, e_z0, e_z1, nI_add, pk_mul, e_sub, Nf_app, e_refl, e_reflN, reduceIte, ite_true_, ite_false_, hM]
    · rw [if_neg h]
      by_cases h5 : 10 - gB0 g = kn g q (g (125 + q))
      · simp (disch := omega) only [l_0, l_1, l_2, l_3, l_4, l_5, l_6, l_7, l_8, l_9, l_10, l_11, l_12, l_13, l_14, l_15, l_16, l_17, l_18, l_19, l_20, l_21, l_22, l_23, l_24, l_25, l_26, l_27, l_28, l_29, l_30, l_31, l_32, l_33, l_34, l_35, l_36, l_40, l_41, l_48, l_56, l_57, l_59, l_60, l_61, l_62, l_63, l_79, l_81, l_88, l_93, l_97, l_99, l_105, l_117, l_121, l_122, l_125, l_127, l_131, l_179, l_185, l_193, l_197, l_200, l_201, l_210, l_255, l_390, l_400, l_616, l_900, l_940, l_999, l_1000, l_1024, e_ltT, e_ltF, e_leT, e_leF, e_eqT, e_eqF, e_cl, e_in, e_gd, e_bd, e_ne, e_en, e_nlt, e_ltn, e_len, e_nle, e_nn, e_z0, e_z1, nI_add, pk_mul, e_sub, Nf_app, e_refl, e_reflN, reduceIte, ite_true_, ite_false_, h5]
      · simp (disch := omega) only [l_0, l_1, l_2, l_3, l_4, l_5, l_6, l_7, l_8, l_9, l_10, l_11, l_12, l_13, l_14, l_15, l_16, l_17, l_18, l_19, l_20, l_21, l_22, l_23, l_24, l_25, l_26, l_27, l_28, l_29, l_30, l_31, l_32, l_33, l_34, l_35, l_36, l_40, l_41, l_48, l_56, l_57, l_59, l_60, l_61, l_62, l_63, l_79, l_81, l_88, l_93, l_97, l_99, l_105, l_117, l_121, l_122, l_125, l_127, l_131, l_179, l_185, l_193, l_197, l_200, l_201, l_210, l_255, l_390, l_400, l_616, l_900, l_940, l_999, l_1000, l_1024, e_ltT, e_ltF, e_leT, e_leF, e_eqT, e_eqF, e_cl, e_in, e_gd, e_bd, e_ne, e_en, e_nlt, e_ltn, e_len, e_nle, e_nn, e_z0, e_z1, nI_add, pk_mul, e_sub, Nf_app, e_refl, e_reflN, reduceIte, ite_true_, ite_false_, hM]
  simp (disch := omega) only [l_0, l_1, l_2, l_3, l_4, l_5, l_6, l_7, l_8, l_9, l_10, l_11, l_12, l_13, l_14, l_15, l_16, l_17, l_18, l_19, l_20, l_21, l_22, l_23, l_24, l_25, l_26, l_27, l_28, l_29, l_30, l_31, l_32, l_33, l_34, l_35, l_36, l_40, l_41, l_48, l_56, l_57, l_59, l_60, l_61, l_62, l_63, l_79, l_81, l_88, l_93, l_97, l_99, l_105, l_117, l_121, l_122, l_125, l_127, l_131, l_179, l_185, l_193, l_197, l_200, l_201, l_210, l_255, l_390, l_400, l_616, l_900, l_940, l_999, l_1000, l_1024, e_ltT, e_ltF, e_leT, e_leF, e_eqT, e_eqF, e_cl, e_in, e_gd, e_bd, e_ne, e_en, e_nlt, e_ltn, e_len, e_nle, e_nn, e_z0, e_z1, nI_add, pk_mul, e_sub, Nf_app, e_refl, e_reflN, reduceIte, ite_true_, ite_false_, r_from0 hW hM hq hl, h1, h3, h4, h2]
theorem r_drawC (hQ : WQ g) (hW : WS N g) (hM : oA M 6 = Nf g) {q : Nat} (hq : q < 6) (hl : 0 < g (125 + q)) : pX11_draws M (nI q) (nI 0) = some (sA M 6 (Nf (gD g q 0))) := by
  have h1 := r_knot hQ hW hM hq hl
  rw [Nat.sub_zero] at h1
  have h2 := r_draw1 hQ hW hM hq hl (Nat.zero_le _)
  unfold pX11_draws
  simp (disch := omega) only [l_0, l_1, l_2, l_3, l_4, l_5, l_6, l_7, l_8, l_9, l_10, l_11, l_12, l_13, l_14, l_15, l_16, l_17, l_18, l_19, l_20, l_21, l_22, l_23, l_24, l_25, l_26, l_27, l_28, l_29, l_30, l_31, l_32, l_33, l_34, l_35, l_36, l_40, l_41, l_48, l_56, l_57, l_59, l_60, l_61, l_62, l_63, l_79, l_81, l_88, l_93, l_97, l_99, l_105, l_117, l_121, l_122, l_125, l_127, l_131, l_179, l_185, l_193, l_197, l_200, l_201, l_210, l_255, l_390, l_400, l_616, l_900, l_940, l_999, l_1000, l_1024, e_ltT, e_ltF, e_leT, e_leF, e_eqT, e_eqF, e_cl, e_in, e_gd, e_bd, e_ne, e_en, e_nlt, e_ltn, e_len, e_nle, e_nn, e_z0, e_z1, nI_add, pk_mul, e_sub, Nf_app, e_refl, e_reflN, reduceIte, ite_true_, ite_false_, r_from0 hW hM hq hl, h1, h2]
theorem sr_draw (hQ : WQ g) (hW : WS N g) (hS : SR V g) {q i : Nat} (hq : q < 6) (hl : 0 < g (125 + q)) {W : Ob} (f0 : oA W 0 = oA V 0) (f1 : oA W 1 = va_up (oA V 1) q (nI (g (125 + q) - kn g q (g (125 + q))))) (f2 : oA W 2 = oA V 2)
    (f3 : ∀ t, t < 8 → oA W 3 t = va_up (oA V 3) (gT g q) (nI (g (185 + gT g q) + i)) t) (f4 : oA W 4 = oA V 4) (f5 : oA W 5 = oA V 5) (f6 : oA W 6 = oA V 6) (f7 : oI W 7 = nI (gB0 g + i)) (f8 : oI W 8 = oI V 8) (f9 : oI W 9 = oI V 9) (f10 : oI W 10 = oI V 10) (f11 : oI W 11 = nI (g 124 + (kn g q (g (125 + q)) - i))) : SR W (gD g q i) := by
  have h0 := w_g0 hQ
  have h1 := w_g1 hQ
  have ht := gT_lt hW hq hl
  have ht8 : gT g q < 8 := by omega
  obtain ⟨b1, b2, b3, b4⟩ := gD_at (g := g) (i := i) hq ht8
  have b5 := gD_bag (g := g) (i := i) hq ht8
  have e1 : gD g q i 1 = g 1 := b1 1 (by omega)
  refine ⟨fun p hp k hk => ?_, fun p hp => ?_, fun p hp => ?_, fun p hp => ?_, fun p hp => ?_, fun p hp => ?_, fun p hp => ?_, ?_, ?_, ?_, ?_, ?_⟩
  · rw [b2 p hp] at hk
    have hkk : k < g (125 + p) := by
      split at hk
      · next h => subst h; omega
      · exact hk
    have := w_long hW hp
    rw [f0, s_0 hS p hp k hkk, b1 _ (by omega)]
  · rw [f1, b2 p hp]
    by_cases h : p = q
    · rw [uv_eq h, if_pos h]
    · rw [uv_ne h, if_neg h, s_1 hS p hp]
  · rw [f2, s_2 hS p (by omega), b1 _ (by omega)]
  · rw [f3 p hp, b4 p hp]
    by_cases h : p = gT g q
    · rw [uv_eq h, uv_eq h]
    · rw [uv_ne h, uv_ne h, s_3 hS p hp]
  · rw [f4, s_4 hS p (by omega), b1 _ (by omega)]
  · rw [f5, s_5 hS p (by omega), b1 _ (by omega)]
  · rw [f6, s_6 hS p (by omega), b1 _ (by omega)]
  · rw [f7]; exact congrArg nI b5.symm
  · rw [f8, s_8 hS, b1 _ (by omega)]
  · rw [f9, s_9 hS, b1 _ (by omega)]
  · rw [f10, s_10 hS, b1 _ (by omega)]
  · rw [f11, b3]
theorem c_drawB (hQ : WQ g) (hW : WS N g) (hS : SR V g) {q : Nat} (hq : q < 6) (hl : 0 < g (125 + q)) : okS (pX6_putOutsideKnotIntoBag V (nI q)) (fun V' => SR V' (gD g q (gI g q)) ∧ oI V' 12 = oI V 12) := by
  have h0 := w_g0 hQ
  have hL := w_long hW hq
  have ht := gT_lt hW hq hl
  have hk := kn_le g q (g (125 + q))
  have hB : gB0 g ≤ 10 := hW.2.2.2.1
  have hi := gI_le hW q
  have k1 := c_knot hQ hW hS hq (top := g (125 + q)) (Nat.le_refl _)
  have k2 : pX6_layerFromOutside V (nI q) (nI 0) = some (nI (gT g q)) := by
    unfold pX6_layerFromOutside
    simp (disch := omega) only [l_0, l_1, l_2, l_3, l_4, l_5, l_6, l_7, l_8, l_9, l_10, l_11, l_12, l_13, l_14, l_15, l_16, l_17, l_18, l_19, l_20, l_21, l_22, l_23, l_24, l_25, l_26, l_27, l_28, l_29, l_30, l_31, l_32, l_33, l_34, l_35, l_36, l_40, l_41, l_48, l_56, l_57, l_59, l_60, l_61, l_62, l_63, l_79, l_81, l_88, l_93, l_97, l_99, l_105, l_117, l_121, l_122, l_125, l_127, l_131, l_179, l_185, l_193, l_197, l_200, l_201, l_210, l_255, l_390, l_400, l_616, l_900, l_940, l_999, l_1000, l_1024, e_ltT, e_ltF, e_leT, e_leF, e_eqT, e_eqF, e_cl, e_in, e_gd, e_bd, e_ne, e_en, e_nlt, e_ltn, e_len, e_nle, e_nn, e_z0, e_z1, nI_add, pk_mul, e_sub, Nf_app, e_refl, e_reflN, reduceIte, ite_true_, ite_false_, s_1 hS, Nat.sub_zero, c_layer hW hS hq (k := g (125 + q) - 1)]
    rfl
  have k3 : oI V 7 = nI (gB0 g) := s_7 hS
  have k4 : (if nI (10 - gB0 g) < nI (kn g q (g (125 + q))) then nI (10 - gB0 g) else nI (kn g q (g (125 + q)))) = nI (gI g q) := by
    unfold gI
    by_cases h : 10 - gB0 g < kn g q (g (125 + q))
    · rw [if_pos h]; simp (disch := omega) only [l_0, l_1, l_2, l_3, l_4, l_5, l_6, l_7, l_8, l_9, l_10, l_11, l_12, l_13, l_14, l_15, l_16, l_17, l_18, l_19, l_20, l_21, l_22, l_23, l_24, l_25, l_26, l_27, l_28, l_29, l_30, l_31, l_32, l_33, l_34, l_35, l_36, l_40, l_41, l_48, l_56, l_57, l_59, l_60, l_61, l_62, l_63, l_79, l_81, l_88, l_93, l_97, l_99, l_105, l_117, l_121, l_122, l_125, l_127, l_131, l_179, l_185, l_193, l_197, l_200, l_201, l_210, l_255, l_390, l_400, l_616, l_900, l_940, l_999, l_1000, l_1024, e_ltT, e_ltF, e_leT, e_leF, e_eqT, e_eqF, e_cl, e_in, e_gd, e_bd, e_ne, e_en, e_nlt, e_ltn, e_len, e_nle, e_nn, e_z0, e_z1, nI_add, pk_mul, e_sub, Nf_app, e_refl, e_reflN, reduceIte, ite_true_, ite_false_, hB]
    · rw [if_neg h]; simp (disch := omega) only [l_0, l_1, l_2, l_3, l_4, l_5, l_6, l_7, l_8, l_9, l_10, l_11, l_12, l_13, l_14, l_15, l_16, l_17, l_18, l_19, l_20, l_21, l_22, l_23, l_24, l_25, l_26, l_27, l_28, l_29, l_30, l_31, l_32, l_33, l_34, l_35, l_36, l_40, l_41, l_48, l_56, l_57, l_59, l_60, l_61, l_62, l_63, l_79, l_81, l_88, l_93, l_97, l_99, l_105, l_117, l_121, l_122, l_125, l_127, l_131, l_179, l_185, l_193, l_197, l_200, l_201, l_210, l_255, l_390, l_400, l_616, l_900, l_940, l_999, l_1000, l_1024, e_ltT, e_ltF, e_leT, e_leF, e_eqT, e_eqF, e_cl, e_in, e_gd, e_bd, e_ne, e_en, e_nlt, e_ltn, e_len, e_nle, e_nn, e_z0, e_z1, nI_add, pk_mul, e_sub, Nf_app, e_refl, e_reflN, reduceIte, ite_true_, ite_false_, hB]
  unfold pX6_putOutsideKnotIntoBag
  simp (disch := omega) only [l_0, l_1, l_8, l_10, s_1 hS, k1, k2, k3, e_bd, e_cl, e_in, e_gd, e_ltT, e_ltF, e_sub, reduceIte, k4, oI_sA, oI_sI, oA_sI, oA_sA, Nat.reduceEqDiff, n10, n01, nI_add, s_3 hS, s_11 hS, hr_app]
  refine okS_some ⟨?_, rfl⟩
  refine sr_draw hQ hW hS hq hl rfl ?_ rfl (fun t _ => ?_) rfl rfl rfl ?_ rfl rfl rfl ?_
  · simp only [oA_sI, oA_sA, Nat.reduceEqDiff, n10, n01, reduceIte]
  · simp only [oA_sI, oA_sA, Nat.reduceEqDiff, n10, n01, reduceIte]
  · simp only [oI_sI, oI_sA, Nat.reduceEqDiff, n10, n01, reduceIte]
  · simp only [oI_sI, oI_sA, Nat.reduceEqDiff, n10, n01, reduceIte]
/-! cutting -/
def gK (g : Nat → Nat) (q : Nat) : Nat → Nat := va_up (gD g q 0) 123 (g 123 + 1)
theorem gK_sm {q : Nat} (hq : q < 6) (ht : gT g q < 8) : Sm g (gK g q) := fun k hk => by
  unfold gK; rw [uv_ne (by omega)]; exact gD_sm hq ht k hk
theorem WS.up1 {h : Nat → Nat} (hQ : WQ h) (hW : WS N h) {k v : Nat} (hk : 121 ≤ k ∧ k ≤ 124) : WS N (va_up h k v) := by
  obtain ⟨a0, a1, a2, a3, a4, a5⟩ := hW
  have h1 := w_g1 hQ
  have e : ∀ j, (j < 121 ∨ 125 ≤ j) → va_up h k v j = h j := fun j hj => uv_ne (by omega)
  refine ⟨fun p hp => ?_, fun p hp j hj => ?_, fun p hp => ?_, ?_, fun t' h1 h2 => ?_, fun b hb_ => ?_⟩
  · rw [e _ (by omega)]; exact a0 p hp
  · rw [e _ (by omega)] at hj; rw [e _ (by omega), e _ (by omega)]; exact a1 p hp j hj
  · rw [e _ (by omega)] at hp; rw [e _ (by omega), e (21 + p) (by omega)]; exact a2 p hp
  · rw [sm_cong (h := fun t => h (185 + t)) (fun k hk => e _ (by omega))]; exact a3
  · rw [e _ (by omega)] at h1; rw [e _ (by omega)]; exact a4 t' h1 h2
  · rw [e _ (by omega)]; exact a5 b hb_
theorem SR.up1 {h : Nat → Nat} (hQ : WQ h) (hS : SR V h) {v : Nat} {k : Nat} {W : Ob} (hk : 121 ≤ k ∧ k ≤ 124) (fA : ∀ j, j < 7 → oA W j = oA V j) (f7 : oI W 7 = oI V 7) (f8 : oI W 8 = if k = 121 then nI v else oI V 8) (f9 : oI W 9 = if k = 122 then nI v else oI V 9) (f10 : oI W 10 = if k = 123 then nI v else oI V 10) (f11 : oI W 11 = if k = 124 then nI v else oI V 11) : SR W (va_up h k v) := by
  have h1 := w_g1 hQ
  have e : ∀ j, (j < 121 ∨ 125 ≤ j) → va_up h k v j = h j := fun j hj => uv_ne (by omega)
  have ec : ∀ j, va_up h k v j = if k = j then v else h j := fun j => by
    rw [up_app]
    by_cases e2 : j = k
    · rw [if_pos e2, if_pos e2.symm]
    · rw [if_neg e2, if_neg (fun e3 => e2 e3.symm)]
  refine ⟨fun p hp j hj => ?_, fun p hp => ?_, fun p hp => ?_, fun p hp => ?_, fun p hp => ?_, fun p hp => ?_, fun p hp => ?_, ?_, ?_, ?_, ?_, ?_⟩
  · rw [e _ (by omega)] at hj; rw [fA 0 (by omega), e _ (by omega)]; exact s_0 hS p hp j hj
  · rw [fA 1 (by omega), e _ (by omega)]; exact s_1 hS p hp
  · rw [e _ (by omega)] at hp; rw [fA 2 (by omega), e _ (by omega)]; exact s_2 hS p hp
  · rw [fA 3 (by omega), e _ (by omega)]; exact s_3 hS p hp
  · rw [fA 4 (by omega), e _ (by omega)]; exact s_4 hS p hp
  · rw [fA 5 (by omega), e _ (by omega)]; exact s_5 hS p hp
  · rw [fA 6 (by omega), e _ (by omega)]; exact s_6 hS p hp
  · rw [f7, s_7 hS, sm_cong (h := fun t => h (185 + t)) (fun k hk => e _ (by omega))]
  · rw [f8, ec, s_8 hS]; split <;> rfl
  · rw [f9, ec, s_9 hS]; split <;> rfl
  · rw [f10, ec, s_10 hS]; split <;> rfl
  · rw [f11, ec, s_11 hS]; split <;> rfl
theorem ws_cut (hQ : WQ g) (hW : WS N g) {q : Nat} (hq : q < 6) (hl : 0 < g (125 + q)) : WS N (gK g q) := by
  have hB : gB0 g ≤ 10 := hW.2.2.2.1
  have h0 := w_g0 hQ
  have ht := gT_lt hW hq hl
  exact WS.up1 (WQ.of (gD_sm hq (by omega)) hQ) (ws_draw hQ hW hq hl (by omega)) (by omega)
theorem r_cut (hQ : WQ g) (hW : WS N g) (hM : oA M 6 = Nf g) {q : Nat} (hq : q < 6) (hl : 0 < g (125 + q)) : pX11_cuts M (nI q) = some (sA M 6 (Nf (gK g q))) := by
  have h0 := w_g0 hQ
  have ht := gT_lt hW hq hl
  have e := (gD_at (g := g) (q := q) (i := 0) hq (by omega)).1 123 (by omega)
  unfold pX11_cuts
  simp (disch := omega) only [l_0, l_1, l_2, l_3, l_4, l_5, l_6, l_7, l_8, l_9, l_10, l_11, l_12, l_13, l_14, l_15, l_16, l_17, l_18, l_19, l_20, l_21, l_22, l_23, l_24, l_25, l_26, l_27, l_28, l_29, l_30, l_31, l_32, l_33, l_34, l_35, l_36, l_40, l_41, l_48, l_56, l_57, l_59, l_60, l_61, l_62, l_63, l_79, l_81, l_88, l_93, l_97, l_99, l_105, l_117, l_121, l_122, l_125, l_127, l_131, l_179, l_185, l_193, l_197, l_200, l_201, l_210, l_255, l_390, l_400, l_616, l_900, l_940, l_999, l_1000, l_1024, e_ltT, e_ltF, e_leT, e_leF, e_eqT, e_eqF, e_cl, e_in, e_gd, e_bd, e_ne, e_en, e_nlt, e_ltn, e_len, e_nle, e_nn, e_z0, e_z1, nI_add, pk_mul, e_sub, Nf_app, e_refl, e_reflN, reduceIte, ite_true_, ite_false_, oI_sI, oI_sL, oI_sW, oI_sA, oI_sJ, oI_sX, oL_sI, oL_sL, oL_sW, oL_sA, oL_sJ, oL_sX, oW_sI, oW_sL, oW_sW, oW_sA, oW_sJ, oW_sX, oA_sI, oA_sL, oA_sW, oA_sA, oA_sJ, oA_sX, oJ_sI, oJ_sL, oJ_sW, oJ_sA, oJ_sJ, oJ_sX, oX_sI, oX_sL, oX_sW, oX_sA, oX_sJ, oX_sX, Nat.reduceEqDiff, n10, n01, uv_eq, uv_ne, up_Nf, sA_sA, r_drawC hQ hW hM hq hl, e]
  rfl
theorem c_cut (hQ : WQ g) (hW : WS N g) (hS : SR V g) {q : Nat} (hq : q < 6) (hl : 0 < g (125 + q)) : okS (pX6_cutOff V (nI q)) (fun V' => SR V' (gK g q) ∧ oI V' 12 = oI V 12) := by
  have hL := w_long hW hq
  have h0 := w_g0 hQ
  have ht := gT_lt hW hq hl
  have hk := kn_le g q (g (125 + q))
  have k1 := c_knot hQ hW hS hq (top := g (125 + q)) (Nat.le_refl _)
  unfold pX6_cutOff
  simp (disch := omega) only [l_0, l_1, s_1 hS, k1, e_bd, e_cl, e_in, e_gd, e_sub, oI_sA, oI_sI, oA_sI, oA_sA, Nat.reduceEqDiff, n10, n01, nI_add, s_11 hS, s_10 hS, reduceIte]
  refine okS_some ⟨?_, rfl⟩
  have hD : SR (sI (sA V 1 (va_up (oA V 1) q (nI (g (125 + q) - kn g q (g (125 + q)))))) 11 (nI (g 124 + kn g q (g (125 + q))))) (gD g q 0) := by
    refine sr_draw hQ hW hS hq hl rfl ?_ rfl (fun t ht8 => ?_) rfl rfl rfl ?_ rfl rfl rfl ?_
    · simp only [oA_sI, oA_sA, Nat.reduceEqDiff, n10, n01, reduceIte]
    · simp only [oA_sI, oA_sA, Nat.reduceEqDiff, n10, n01, reduceIte]
      by_cases h : t = gT g q
      · rw [uv_eq h, s_3 hS t ht8, h, Nat.add_zero]
      · rw [uv_ne h]
    · rw [Nat.add_zero]; exact s_7 (V := V) hS
    · rw [Nat.sub_zero]; simp only [oI_sI, oI_sA, Nat.reduceEqDiff, n10, n01, reduceIte]
  refine SR.up1 (WQ.of (gD_sm hq (by omega)) hQ) hD (by omega) (fun j hj => ?_) ?_ ?_ ?_ ?_ ?_ <;> simp only [oI_sI, oI_sA, oA_sI, Nat.reduceEqDiff, n10, n01, reduceIte]
end
