/-! the bag as a row -/
def rp (v : Nat) : Nat → (Nat → Nat) × Nat → (Nat → Nat) × Nat
  | 0, s => s
  | m + 1, s => rp v m (tp s v)
def bl (g : Nat → Nat) : Nat → (Nat → Nat) × Nat
  | 0 => (fun _ => 0, 0)
  | t + 1 => rp (g (13 + t)) (g (185 + t)) (bl g t)
theorem rp_n (v : Nat) : ∀ (m : Nat) (s : (Nat → Nat) × Nat), (rp v m s).2 = s.2 + m
  | 0, s => rfl
  | m + 1, s => by
    rw [rp, rp_n v m]
    show s.2 + 1 + m = _
    omega
theorem bl_n (g : Nat → Nat) : ∀ t, (bl g t).2 = sm (fun t => g (185 + t)) t
  | 0 => rfl
  | t + 1 => by rw [bl, rp_n, bl_n g t]; rfl
theorem rp_9 {v : Nat} (hv : v ≤ 9) : ∀ (m : Nat) (s : (Nat → Nat) × Nat), (∀ i, i < s.2 → s.1 i ≤ 9) → ∀ i, i < (rp v m s).2 → (rp v m s).1 i ≤ 9
  | 0, s, h => h
  | m + 1, s, h => rp_9 hv m (tp s v) (fun i hi => by
      have hi : i < s.2 + 1 := hi
      show va_up s.1 s.2 v i ≤ 9
      by_cases c : i = s.2
      · rw [uv_eq c]; exact hv
      · rw [uv_ne c]; exact h i (by omega))
section
variable {N : Nat} {g : Nat → Nat} {M V V2 W : Ob}
theorem bl_9 (hQ : WQ g) (hW : WS N g) : ∀ t, t ≤ 8 → ∀ i, i < (bl g t).2 → (bl g t).1 i ≤ 9
  | 0, _ => fun i hi => by
    have hi : i < 0 := hi
    omega
  | t + 1, ht => by
    have ih := bl_9 hQ hW t (by omega)
    by_cases c : t < g 0
    · exact rp_9 (w_hold hQ c).2.2 _ _ ih
    · have e : g (185 + t) = 0 := hW.2.2.2.2.1 t (by omega) (by omega)
      rw [bl, e]; exact ih
theorem bl_g0 (hQ : WQ g) (hW : WS N g) : ∀ k, g 0 + k ≤ 8 → bl g (g 0 + k) = bl g (g 0)
  | 0, _ => rfl
  | k + 1, hk => by
    have e : g (185 + (g 0 + k)) = 0 := hW.2.2.2.2.1 (g 0 + k) (by omega) (by omega)
    rw [← bl_g0 hQ hW k (by omega), ← Nat.add_assoc, bl, e]; rfl
theorem bl_8 (hQ : WQ g) (hW : WS N g) : bl g (g 0) = bl g 8 := by
  have h := bl_g0 hQ hW (8 - g 0) (by have := w_g0 hQ; omega)
  rw [show g 0 + (8 - g 0) = 8 by have := w_g0 hQ; omega] at h
  exact h.symm
theorem sm_tp (s : (Nat → Nat) × Nat) (c : Nat) : sm (tp s c).1 (tp s c).2 = sm s.1 s.2 + c := by
  show sm (va_up s.1 s.2 c) (s.2 + 1) = _
  rw [sm, sm_cong (h := s.1) (fun k hk => uv_ne (by omega)), uv_eq rfl]
/-- which things of the row are like the one ahead, as bits -/
def LK (L : Nat) (s : (Nat → Nat) × Nat) : Prop := L < 2 ^ s.2 ∧ ∀ i, L.testBit i = true → 1 ≤ i ∧ s.1 (i - 1) = s.1 i
theorem LK.bit {L i : Nat} {s : (Nat → Nat) × Nat} (h : LK L s) (hi : L.testBit i = true) : i < s.2 := by
  rcases Nat.lt_or_ge i s.2 with c | c
  · exact c
  · rw [Nat.testBit_lt_two_pow (Nat.lt_of_lt_of_le h.1 (Nat.pow_le_pow_right (by decide) c))] at hi
    cases hi
theorem LK.old {L : Nat} {s : (Nat → Nat) × Nat} (h : LK L s) (v : Nat) : LK L (tp s v) := by
  refine ⟨Nat.lt_of_lt_of_le h.1 (Nat.pow_le_pow_right (by decide) (Nat.le_succ _)), fun i hi => ?_⟩
  have hb := h.bit hi
  obtain ⟨h1, h2⟩ := h.2 i hi
  refine ⟨h1, ?_⟩
  show va_up s.1 s.2 v (i - 1) = va_up s.1 s.2 v i
  rw [uv_ne (by omega), uv_ne (by omega)]; exact h2
theorem LK.new {L : Nat} {s : (Nat → Nat) × Nat} (h : LK L s) {v : Nat} (h1 : 1 ≤ s.2) (hv : s.1 (s.2 - 1) = v) : LK (L ||| 2 ^ s.2) (tp s v) := by
  have e := h.old v
  refine ⟨Nat.or_lt_two_pow e.1 (Nat.pow_lt_pow_right (by decide) (Nat.lt_succ_self _)), fun i hi => ?_⟩
  rw [Nat.testBit_or, Nat.testBit_two_pow, Bool.or_eq_true, decide_eq_true_eq] at hi
  rcases hi with hi | hi
  · exact e.2 i hi
  · subst hi
    refine ⟨h1, ?_⟩
    show va_up s.1 s.2 v (s.2 - 1) = va_up s.1 s.2 v s.2
    rw [uv_ne (by omega), uv_eq rfl]; exact hv
def BC (W : Ob) (s : (Nat → Nat) × Nat) : Prop := oI W 2 = nI s.2 ∧ oI W 3 = nI (sm s.1 s.2) ∧ (∀ i, i < s.2 → oA W 1 i = nI (s.1 i)) ∧ ∃ L, oI W 4 = nI L ∧ LK L s
theorem c_bag1 (hR : QR V2 g) (hS : SR V g) (hQ : WQ g) {t : Nat} (ht : t < g 0) (hb10 : g (185 + t) ≤ 10) : ∀ (f m i : Nat) {s : (Nat → Nat) × Nat} {W : Ob}, i + m = g (185 + t) → m < f → BC W s → (0 < i → 1 ≤ s.2 ∧ s.1 (s.2 - 1) = g (13 + t)) → s.2 + m ≤ 10 → okS (pX3_listBag_l28 V2 V (nI t) f (nI i) W) (fun W' => BC W' (rp (g (13 + t)) m s))
  | 0, _, _, _, _, _, h, _, _, _ => by omega
  | f + 1, m, i, s, W, h1, h2, hB, hi, h3 => by
    have g0 := w_g0 hQ
    rw [pX3_listBag_l28]
    cases m with
    | zero =>
      simp (disch := omega) only [l_0, l_1, l_2, l_3, l_4, l_5, l_6, l_7, l_8, l_9, l_10, l_11, l_12, l_13, l_14, l_15, l_16, l_17, l_18, l_19, l_20, l_21, l_22, l_23, l_24, l_25, l_26, l_27, l_28, l_29, l_30, l_31, l_32, l_33, l_34, l_35, l_36, l_40, l_41, l_48, l_56, l_57, l_59, l_60, l_61, l_62, l_63, l_79, l_81, l_88, l_93, l_97, l_99, l_105, l_117, l_121, l_122, l_125, l_127, l_131, l_179, l_185, l_193, l_197, l_200, l_201, l_210, l_255, l_390, l_400, l_616, l_900, l_940, l_999, l_1000, l_1024, e_ltT, e_ltF, e_leT, e_leF, e_eqT, e_eqF, e_cl, e_in, e_gd, e_bd, e_ne, e_en, e_nlt, e_ltn, e_len, e_nle, e_nn, e_z0, e_z1, nI_add, pk_mul, e_sub, Nf_app, e_refl, e_reflN, reduceIte, ite_true_, ite_false_, s_3 hS]
      exact okS_some hB
    | succ m =>
      obtain ⟨L, l4, lk⟩ := hB.2.2.2
      have nx : ∀ L', LK L' (tp s (g (13 + t))) → okS (pX3_listBag_l28 V2 V (nI t) f (nI (i + 1)) (sI (sI (sI (sA W 1 (va_up (oA W 1) s.2 (nI (g (13 + t))))) 3 (nI (sm s.1 s.2 + g (13 + t)))) 4 (nI L')) 2 (nI (s.2 + 1)))) (fun W' => BC W' (rp (g (13 + t)) m (tp s (g (13 + t))))) := fun L' hL' => by
        have hB' : BC (sI (sI (sI (sA W 1 (va_up (oA W 1) s.2 (nI (g (13 + t))))) 3 (nI (sm s.1 s.2 + g (13 + t)))) 4 (nI L')) 2 (nI (s.2 + 1))) (tp s (g (13 + t))) := by
          refine ⟨?_, ?_, fun j hj => ?_, L', ?_, hL'⟩
          · simp (disch := omega) only [l_0, l_1, l_2, l_3, l_4, l_5, l_6, l_7, l_8, l_9, l_10, l_11, l_12, l_13, l_14, l_15, l_16, l_17, l_18, l_19, l_20, l_21, l_22, l_23, l_24, l_25, l_26, l_27, l_28, l_29, l_30, l_31, l_32, l_33, l_34, l_35, l_36, l_40, l_41, l_48, l_56, l_57, l_59, l_60, l_61, l_62, l_63, l_79, l_81, l_88, l_93, l_97, l_99, l_105, l_117, l_121, l_122, l_125, l_127, l_131, l_179, l_185, l_193, l_197, l_200, l_201, l_210, l_255, l_390, l_400, l_616, l_900, l_940, l_999, l_1000, l_1024, e_ltT, e_ltF, e_leT, e_leF, e_eqT, e_eqF, e_cl, e_in, e_gd, e_bd, e_ne, e_en, e_nlt, e_ltn, e_len, e_nle, e_nn, e_z0, e_z1, nI_add, pk_mul, e_sub, Nf_app, e_refl, e_reflN, reduceIte, ite_true_, ite_false_, oI_sI, oI_sL, oI_sW, oI_sA, oI_sJ, oI_sX, oL_sI, oL_sL, oL_sW, oL_sA, oL_sJ, oL_sX, oW_sI, oW_sL, oW_sW, oW_sA, oW_sJ, oW_sX, oA_sI, oA_sL, oA_sW, oA_sA, oA_sJ, oA_sX, oJ_sI, oJ_sL, oJ_sW, oJ_sA, oJ_sJ, oJ_sX, oX_sI, oX_sL, oX_sW, oX_sA, oX_sJ, oX_sX, Nat.reduceEqDiff, n10, n01, hB.1]; rfl
          · rw [sm_tp]; simp (disch := omega) only [l_0, l_1, l_2, l_3, l_4, l_5, l_6, l_7, l_8, l_9, l_10, l_11, l_12, l_13, l_14, l_15, l_16, l_17, l_18, l_19, l_20, l_21, l_22, l_23, l_24, l_25, l_26, l_27, l_28, l_29, l_30, l_31, l_32, l_33, l_34, l_35, l_36, l_40, l_41, l_48, l_56, l_57, l_59, l_60, l_61, l_62, l_63, l_79, l_81, l_88, l_93, l_97, l_99, l_105, l_117, l_121, l_122, l_125, l_127, l_131, l_179, l_185, l_193, l_197, l_200, l_201, l_210, l_255, l_390, l_400, l_616, l_900, l_940, l_999, l_1000, l_1024, e_ltT, e_ltF, e_leT, e_leF, e_eqT, e_eqF, e_cl, e_in, e_gd, e_bd, e_ne, e_en, e_nlt, e_ltn, e_len, e_nle, e_nn, e_z0, e_z1, nI_add, pk_mul, e_sub, Nf_app, e_refl, e_reflN, reduceIte, ite_true_, ite_false_, oI_sI, oI_sL, oI_sW, oI_sA, oI_sJ, oI_sX, oL_sI, oL_sL, oL_sW, oL_sA, oL_sJ, oL_sX, oW_sI, oW_sL, oW_sW, oW_sA, oW_sJ, oW_sX, oA_sI, oA_sL, oA_sW, oA_sA, oA_sJ, oA_sX, oJ_sI, oJ_sL, oJ_sW, oJ_sA, oJ_sJ, oJ_sX, oX_sI, oX_sL, oX_sW, oX_sA, oX_sJ, oX_sX, Nat.reduceEqDiff, n10, n01, hB.1]
          · have hj : j < s.2 + 1 := hj
            simp (disch := omega) only [l_0, l_1, l_2, l_3, l_4, l_5, l_6, l_7, l_8, l_9, l_10, l_11, l_12, l_13, l_14, l_15, l_16, l_17, l_18, l_19, l_20, l_21, l_22, l_23, l_24, l_25, l_26, l_27, l_28, l_29, l_30, l_31, l_32, l_33, l_34, l_35, l_36, l_40, l_41, l_48, l_56, l_57, l_59, l_60, l_61, l_62, l_63, l_79, l_81, l_88, l_93, l_97, l_99, l_105, l_117, l_121, l_122, l_125, l_127, l_131, l_179, l_185, l_193, l_197, l_200, l_201, l_210, l_255, l_390, l_400, l_616, l_900, l_940, l_999, l_1000, l_1024, e_ltT, e_ltF, e_leT, e_leF, e_eqT, e_eqF, e_cl, e_in, e_gd, e_bd, e_ne, e_en, e_nlt, e_ltn, e_len, e_nle, e_nn, e_z0, e_z1, nI_add, pk_mul, e_sub, Nf_app, e_refl, e_reflN, reduceIte, ite_true_, ite_false_, oI_sI, oI_sL, oI_sW, oI_sA, oI_sJ, oI_sX, oL_sI, oL_sL, oL_sW, oL_sA, oL_sJ, oL_sX, oW_sI, oW_sL, oW_sW, oW_sA, oW_sJ, oW_sX, oA_sI, oA_sL, oA_sW, oA_sA, oA_sJ, oA_sX, oJ_sI, oJ_sL, oJ_sW, oJ_sA, oJ_sJ, oJ_sX, oX_sI, oX_sL, oX_sW, oX_sA, oX_sJ, oX_sX, Nat.reduceEqDiff, n10, n01, hB.1]
            show va_up (oA W 1) s.2 (nI (g (13 + t))) j = nI (va_up s.1 s.2 (g (13 + t)) j)
            by_cases e : j = s.2
            · rw [uv_eq e, uv_eq e]
            · rw [uv_ne e, uv_ne e]; exact hB.2.2.1 j (by omega)
          · simp (disch := omega) only [l_0, l_1, l_2, l_3, l_4, l_5, l_6, l_7, l_8, l_9, l_10, l_11, l_12, l_13, l_14, l_15, l_16, l_17, l_18, l_19, l_20, l_21, l_22, l_23, l_24, l_25, l_26, l_27, l_28, l_29, l_30, l_31, l_32, l_33, l_34, l_35, l_36, l_40, l_41, l_48, l_56, l_57, l_59, l_60, l_61, l_62, l_63, l_79, l_81, l_88, l_93, l_97, l_99, l_105, l_117, l_121, l_122, l_125, l_127, l_131, l_179, l_185, l_193, l_197, l_200, l_201, l_210, l_255, l_390, l_400, l_616, l_900, l_940, l_999, l_1000, l_1024, e_ltT, e_ltF, e_leT, e_leF, e_eqT, e_eqF, e_cl, e_in, e_gd, e_bd, e_ne, e_en, e_nlt, e_ltn, e_len, e_nle, e_nn, e_z0, e_z1, nI_add, pk_mul, e_sub, Nf_app, e_refl, e_reflN, reduceIte, ite_true_, ite_false_, oI_sI, oI_sL, oI_sW, oI_sA, oI_sJ, oI_sX, oL_sI, oL_sL, oL_sW, oL_sA, oL_sJ, oL_sX, oW_sI, oW_sL, oW_sW, oW_sA, oW_sJ, oW_sX, oA_sI, oA_sL, oA_sW, oA_sA, oA_sJ, oA_sX, oJ_sI, oJ_sL, oJ_sW, oJ_sA, oJ_sJ, oJ_sX, oX_sI, oX_sL, oX_sW, oX_sA, oX_sJ, oX_sX, Nat.reduceEqDiff, n10, n01, hB.1]
        exact c_bag1 hR hS hQ ht hb10 f m (i + 1) (s := tp s (g (13 + t))) (by omega) (by omega) hB' (fun _ => ⟨Nat.succ_le_succ (Nat.zero_le _), by
          show va_up s.1 s.2 (g (13 + t)) (s.2 + 1 - 1) = _
          rw [uv_eq (by omega)]⟩) (by show s.2 + 1 + m ≤ 10; omega)
      by_cases c : 0 < i
      · have ih := nx _ (lk.new (hi c).1 (hi c).2)
        simp (disch := omega) only [l_0, l_1, l_2, l_3, l_4, l_5, l_6, l_7, l_8, l_9, l_10, l_11, l_12, l_13, l_14, l_15, l_16, l_17, l_18, l_19, l_20, l_21, l_22, l_23, l_24, l_25, l_26, l_27, l_28, l_29, l_30, l_31, l_32, l_33, l_34, l_35, l_36, l_40, l_41, l_48, l_56, l_57, l_59, l_60, l_61, l_62, l_63, l_79, l_81, l_88, l_93, l_97, l_99, l_105, l_117, l_121, l_122, l_125, l_127, l_131, l_179, l_185, l_193, l_197, l_200, l_201, l_210, l_255, l_390, l_400, l_616, l_900, l_940, l_999, l_1000, l_1024, e_ltT, e_ltF, e_leT, e_leF, e_eqT, e_eqF, e_cl, e_in, e_gd, e_bd, e_ne, e_en, e_nlt, e_ltn, e_len, e_nle, e_nn, e_z0, e_z1, nI_add, pk_mul, e_sub, Nf_app, e_refl, e_reflN, reduceIte, ite_true_, ite_false_, oI_sI, oI_sL, oI_sW, oI_sA, oI_sJ, oI_sX, oL_sI, oL_sL, oL_sW, oL_sA, oL_sJ, oL_sX, oW_sI, oW_sL, oW_sW, oW_sA, oW_sJ, oW_sX, oA_sI, oA_sL, oA_sW, oA_sA, oA_sJ, oA_sX, oJ_sI, oJ_sL, oJ_sW, oJ_sA, oJ_sJ, oJ_sX, oX_sI, oX_sL, oX_sW, oX_sA, oX_sJ, oX_sX, Nat.reduceEqDiff, n10, n01, s_3 hS, hB.1, hB.2.1, q_3 hR, pX3_listBag_j98, l4, e_shl, e_or]
        exact ih
      · have ih := nx _ (lk.old (g (13 + t)))
        rw [show L = L ||| 0 from (Nat.or_zero L).symm] at ih
        simp (disch := omega) only [l_0, l_1, l_2, l_3, l_4, l_5, l_6, l_7, l_8, l_9, l_10, l_11, l_12, l_13, l_14, l_15, l_16, l_17, l_18, l_19, l_20, l_21, l_22, l_23, l_24, l_25, l_26, l_27, l_28, l_29, l_30, l_31, l_32, l_33, l_34, l_35, l_36, l_40, l_41, l_48, l_56, l_57, l_59, l_60, l_61, l_62, l_63, l_79, l_81, l_88, l_93, l_97, l_99, l_105, l_117, l_121, l_122, l_125, l_127, l_131, l_179, l_185, l_193, l_197, l_200, l_201, l_210, l_255, l_390, l_400, l_616, l_900, l_940, l_999, l_1000, l_1024, e_ltT, e_ltF, e_leT, e_leF, e_eqT, e_eqF, e_cl, e_in, e_gd, e_bd, e_ne, e_en, e_nlt, e_ltn, e_len, e_nle, e_nn, e_z0, e_z1, nI_add, pk_mul, e_sub, Nf_app, e_refl, e_reflN, reduceIte, ite_true_, ite_false_, oI_sI, oI_sL, oI_sW, oI_sA, oI_sJ, oI_sX, oL_sI, oL_sL, oL_sW, oL_sA, oL_sJ, oL_sX, oW_sI, oW_sL, oW_sW, oW_sA, oW_sJ, oW_sX, oA_sI, oA_sL, oA_sW, oA_sA, oA_sJ, oA_sX, oJ_sI, oJ_sL, oJ_sW, oJ_sA, oJ_sJ, oJ_sX, oX_sI, oX_sL, oX_sW, oX_sA, oX_sJ, oX_sX, Nat.reduceEqDiff, n10, n01, s_3 hS, hB.1, hB.2.1, q_3 hR, pX3_listBag_j98, l4, e_or]
        exact ih
theorem bag_t (hW : WS N g) {t : Nat} (ht : t ≤ 8) : sm (fun t => g (185 + t)) t ≤ 10 := Nat.le_trans (sm_mono _ ht) hW.2.2.2.1
theorem c_bag_l (hQ : WQ g) (hW : WS N g) (hR : QR V2 g) (hS : SR V g) : ∀ (f t : Nat) {W : Ob}, t ≤ g 0 → g 0 - t < f → BC W (bl g t) → okS (pX3_listBag_l17 V2 V f (nI t) W) (fun W' => BC W' (bl g (g 0)))
  | 0, _, _, _, h, _ => by omega
  | f + 1, t, W, h1, h2, hB => by
    have g0 := w_g0 hQ
    rw [pX3_listBag_l17]
    by_cases c : t = g 0
    · simp (disch := omega) only [l_0, l_1, l_2, l_3, l_4, l_5, l_6, l_7, l_8, l_9, l_10, l_11, l_12, l_13, l_14, l_15, l_16, l_17, l_18, l_19, l_20, l_21, l_22, l_23, l_24, l_25, l_26, l_27, l_28, l_29, l_30, l_31, l_32, l_33, l_34, l_35, l_36, l_40, l_41, l_48, l_56, l_57, l_59, l_60, l_61, l_62, l_63, l_79, l_81, l_88, l_93, l_97, l_99, l_105, l_117, l_121, l_122, l_125, l_127, l_131, l_179, l_185, l_193, l_197, l_200, l_201, l_210, l_255, l_390, l_400, l_616, l_900, l_940, l_999, l_1000, l_1024, e_ltT, e_ltF, e_leT, e_leF, e_eqT, e_eqF, e_cl, e_in, e_gd, e_bd, e_ne, e_en, e_nlt, e_ltn, e_len, e_nle, e_nn, e_z0, e_z1, nI_add, pk_mul, e_sub, Nf_app, e_refl, e_reflN, reduceIte, ite_true_, ite_false_, q_0 hR]
      exact okS_some (by rw [← c]; exact hB)
    · have b1 := bag_t hW (t := t + 1) (by omega)
      rw [sm] at b1
      obtain ⟨W', w1, w2⟩ := c_bag1 hR hS hQ (t := t) (by omega) (by omega) fu (g (185 + t)) 0 (by omega) (by rw [fu_eq]; omega) hB (fun h => absurd h (Nat.lt_irrefl 0)) (by rw [bl_n]; omega)
      have ih := c_bag_l hQ hW hR hS f (t + 1) (W := W') (by omega) (by omega) w2
      simp (disch := omega) only [l_0, l_1, l_2, l_3, l_4, l_5, l_6, l_7, l_8, l_9, l_10, l_11, l_12, l_13, l_14, l_15, l_16, l_17, l_18, l_19, l_20, l_21, l_22, l_23, l_24, l_25, l_26, l_27, l_28, l_29, l_30, l_31, l_32, l_33, l_34, l_35, l_36, l_40, l_41, l_48, l_56, l_57, l_59, l_60, l_61, l_62, l_63, l_79, l_81, l_88, l_93, l_97, l_99, l_105, l_117, l_121, l_122, l_125, l_127, l_131, l_179, l_185, l_193, l_197, l_200, l_201, l_210, l_255, l_390, l_400, l_616, l_900, l_940, l_999, l_1000, l_1024, e_ltT, e_ltF, e_leT, e_leF, e_eqT, e_eqF, e_cl, e_in, e_gd, e_bd, e_ne, e_en, e_nlt, e_ltn, e_len, e_nle, e_nn, e_z0, e_z1, nI_add, pk_mul, e_sub, Nf_app, e_refl, e_reflN, reduceIte, ite_true_, ite_false_, q_0 hR, w1]
      exact ih
theorem c_bag (hQ : WQ g) (hW : WS N g) (hR : QR V2 g) (hS : SR V g) : okS (pX3_listBag W V2 V) (fun W' => BC W' (bl g 8)) := by
  obtain ⟨W', w1, w2⟩ := c_bag_l hQ hW hR hS fu 0 (W := sI (sI (sI W 2 (nI 0)) 3 (nI 0)) 4 (nI 0)) (by omega) (by have := w_g0 hQ; rw [fu_eq]; omega) ⟨by simp (disch := omega) only [l_0, l_1, l_2, l_3, l_4, l_5, l_6, l_7, l_8, l_9, l_10, l_11, l_12, l_13, l_14, l_15, l_16, l_17, l_18, l_19, l_20, l_21, l_22, l_23, l_24, l_25, l_26, l_27, l_28, l_29, l_30, l_31, l_32, l_33, l_34, l_35, l_36, l_40, l_41, l_48, l_56, l_57, l_59, l_60, l_61, l_62, l_63, l_79, l_81, l_88, l_93, l_97, l_99, l_105, l_117, l_121, l_122, l_125, l_127, l_131, l_179, l_185, l_193, l_197, l_200, l_201, l_210, l_255, l_390, l_400, l_616, l_900, l_940, l_999, l_1000, l_1024, e_ltT, e_ltF, e_leT, e_leF, e_eqT, e_eqF, e_cl, e_in, e_gd, e_bd, e_ne, e_en, e_nlt, e_ltn, e_len, e_nle, e_nn, e_z0, e_z1, nI_add, pk_mul, e_sub, Nf_app, e_refl, e_reflN, reduceIte, ite_true_, ite_false_, oI_sI, oI_sL, oI_sW, oI_sA, oI_sJ, oI_sX, oL_sI, oL_sL, oL_sW, oL_sA, oL_sJ, oL_sX, oW_sI, oW_sL, oW_sW, oW_sA, oW_sJ, oW_sX, oA_sI, oA_sL, oA_sW, oA_sA, oA_sJ, oA_sX, oJ_sI, oJ_sL, oJ_sW, oJ_sA, oJ_sJ, oJ_sX, oX_sI, oX_sL, oX_sW, oX_sA, oX_sJ, oX_sX, Nat.reduceEqDiff, n10, n01, hQ]; rfl, by simp (disch := omega) only [l_0, l_1, l_2, l_3, l_4, l_5, l_6, l_7, l_8, l_9, l_10, l_11, l_12, l_13, l_14, l_15, l_16, l_17, l_18, l_19, l_20, l_21, l_22, l_23, l_24, l_25, l_26, l_27, l_28, l_29, l_30, l_31, l_32, l_33, l_34, l_35, l_36, l_40, l_41, l_48, l_56, l_57, l_59, l_60, l_61, l_62, l_63, l_79, l_81, l_88, l_93, l_97, l_99, l_105, l_117, l_121, l_122, l_125, l_127, l_131, l_179, l_185, l_193, l_197, l_200, l_201, l_210, l_255, l_390, l_400, l_616, l_900, l_940, l_999, l_1000, l_1024, e_ltT, e_ltF, e_leT, e_leF, e_eqT, e_eqF, e_cl, e_in, e_gd, e_bd, e_ne, e_en, e_nlt, e_ltn, e_len, e_nle, e_nn, e_z0, e_z1, nI_add, pk_mul, e_sub, Nf_app, e_refl, e_reflN, reduceIte, ite_true_, ite_false_, oI_sI, oI_sL, oI_sW, oI_sA, oI_sJ, oI_sX, oL_sI, oL_sL, oL_sW, oL_sA, oL_sJ, oL_sX, oW_sI, oW_sL, oW_sW, oW_sA, oW_sJ, oW_sX, oA_sI, oA_sL, oA_sW, oA_sA, oA_sJ, oA_sX, oJ_sI, oJ_sL, oJ_sW, oJ_sA, oJ_sJ, oJ_sX, oX_sI, oX_sL, oX_sW, oX_sA, oX_sJ, oX_sX, Nat.reduceEqDiff, n10, n01, hQ]; rfl, fun i hi => by
    have hi : i < 0 := hi
    omega, 0, by simp (disch := omega) only [l_0, l_1, l_2, l_3, l_4, l_5, l_6, l_7, l_8, l_9, l_10, l_11, l_12, l_13, l_14, l_15, l_16, l_17, l_18, l_19, l_20, l_21, l_22, l_23, l_24, l_25, l_26, l_27, l_28, l_29, l_30, l_31, l_32, l_33, l_34, l_35, l_36, l_40, l_41, l_48, l_56, l_57, l_59, l_60, l_61, l_62, l_63, l_79, l_81, l_88, l_93, l_97, l_99, l_105, l_117, l_121, l_122, l_125, l_127, l_131, l_179, l_185, l_193, l_197, l_200, l_201, l_210, l_255, l_390, l_400, l_616, l_900, l_940, l_999, l_1000, l_1024, e_ltT, e_ltF, e_leT, e_leF, e_eqT, e_eqF, e_cl, e_in, e_gd, e_bd, e_ne, e_en, e_nlt, e_ltn, e_len, e_nle, e_nn, e_z0, e_z1, nI_add, pk_mul, e_sub, Nf_app, e_refl, e_reflN, reduceIte, ite_true_, ite_false_, oI_sI, oI_sL, oI_sW, oI_sA, oI_sJ, oI_sX, oL_sI, oL_sL, oL_sW, oL_sA, oL_sJ, oL_sX, oW_sI, oW_sL, oW_sW, oW_sA, oW_sJ, oW_sX, oA_sI, oA_sL, oA_sW, oA_sA, oA_sJ, oA_sX, oJ_sI, oJ_sL, oJ_sW, oJ_sA, oJ_sJ, oJ_sX, oX_sI, oX_sL, oX_sW, oX_sA, oX_sJ, oX_sX, Nat.reduceEqDiff, n10, n01, hQ], Nat.two_pow_pos _, fun i hi => by rw [Nat.zero_testBit] at hi; cases hi⟩
  rw [bl_8 hQ hW] at w2
  unfold pX3_listBag
  simp only [l_0, w1, e_bd]
  exact okS_some w2
theorem r_bag1 (hM : oA M 6 = Nf g) {t : Nat} (ht : t < 8) (hb10 : g (185 + t) ≤ 10) : ∀ (f m i : Nat) {s : (Nat → Nat) × Nat} {X : Nat → Int32}, i + m = g (185 + t) → m < f → (∀ i, i < s.2 → X i = nI (s.1 i)) → s.2 + m ≤ 10 → okS (pX11_laysBag_l12 (nI t) f (nI s.2) (nI i) (sA M 28 X)) (fun r => r.1 = nI (rp (g (13 + t)) m s).2 ∧ ∃ X', r.2 = sA M 28 X' ∧ ∀ i, i < (rp (g (13 + t)) m s).2 → X' i = nI ((rp (g (13 + t)) m s).1 i))
  | 0, _, _, _, _, _, h, _, _ => by omega
  | f + 1, m, i, s, X, h1, h2, hX, h3 => by
    rw [pX11_laysBag_l12]
    cases m with
    | zero =>
      simp (disch := omega) only [l_0, l_1, l_2, l_3, l_4, l_5, l_6, l_7, l_8, l_9, l_10, l_11, l_12, l_13, l_14, l_15, l_16, l_17, l_18, l_19, l_20, l_21, l_22, l_23, l_24, l_25, l_26, l_27, l_28, l_29, l_30, l_31, l_32, l_33, l_34, l_35, l_36, l_40, l_41, l_48, l_56, l_57, l_59, l_60, l_61, l_62, l_63, l_79, l_81, l_88, l_93, l_97, l_99, l_105, l_117, l_121, l_122, l_125, l_127, l_131, l_179, l_185, l_193, l_197, l_200, l_201, l_210, l_255, l_390, l_400, l_616, l_900, l_940, l_999, l_1000, l_1024, e_ltT, e_ltF, e_leT, e_leF, e_eqT, e_eqF, e_cl, e_in, e_gd, e_bd, e_ne, e_en, e_nlt, e_ltn, e_len, e_nle, e_nn, e_z0, e_z1, nI_add, pk_mul, e_sub, Nf_app, e_refl, e_reflN, reduceIte, ite_true_, ite_false_, oI_sI, oI_sL, oI_sW, oI_sA, oI_sJ, oI_sX, oL_sI, oL_sL, oL_sW, oL_sA, oL_sJ, oL_sX, oW_sI, oW_sL, oW_sW, oW_sA, oW_sJ, oW_sX, oA_sI, oA_sL, oA_sW, oA_sA, oA_sJ, oA_sX, oJ_sI, oJ_sL, oJ_sW, oJ_sA, oJ_sJ, oJ_sX, oX_sI, oX_sL, oX_sW, oX_sA, oX_sJ, oX_sX, Nat.reduceEqDiff, n10, n01, hM]
      exact okS_some ⟨rfl, X, rfl, hX⟩
    | succ m =>
      have ih := r_bag1 hM ht hb10 f m (i + 1) (s := tp s (g (13 + t))) (X := va_up X s.2 (nI (g (13 + t)))) (by omega) (by omega) (fun j hj => by
        have hj : j < s.2 + 1 := hj
        show va_up X s.2 (nI (g (13 + t))) j = nI (va_up s.1 s.2 (g (13 + t)) j)
        by_cases e : j = s.2
        · rw [uv_eq e, uv_eq e]
        · rw [uv_ne e, uv_ne e]; exact hX j (by omega)) (by show s.2 + 1 + m ≤ 10; omega)
      simp (disch := omega) only [l_0, l_1, l_2, l_3, l_4, l_5, l_6, l_7, l_8, l_9, l_10, l_11, l_12, l_13, l_14, l_15, l_16, l_17, l_18, l_19, l_20, l_21, l_22, l_23, l_24, l_25, l_26, l_27, l_28, l_29, l_30, l_31, l_32, l_33, l_34, l_35, l_36, l_40, l_41, l_48, l_56, l_57, l_59, l_60, l_61, l_62, l_63, l_79, l_81, l_88, l_93, l_97, l_99, l_105, l_117, l_121, l_122, l_125, l_127, l_131, l_179, l_185, l_193, l_197, l_200, l_201, l_210, l_255, l_390, l_400, l_616, l_900, l_940, l_999, l_1000, l_1024, e_ltT, e_ltF, e_leT, e_leF, e_eqT, e_eqF, e_cl, e_in, e_gd, e_bd, e_ne, e_en, e_nlt, e_ltn, e_len, e_nle, e_nn, e_z0, e_z1, nI_add, pk_mul, e_sub, Nf_app, e_refl, e_reflN, reduceIte, ite_true_, ite_false_, oI_sI, oI_sL, oI_sW, oI_sA, oI_sJ, oI_sX, oL_sI, oL_sL, oL_sW, oL_sA, oL_sJ, oL_sX, oW_sI, oW_sL, oW_sW, oW_sA, oW_sJ, oW_sX, oA_sI, oA_sL, oA_sW, oA_sA, oA_sJ, oA_sX, oJ_sI, oJ_sL, oJ_sW, oJ_sA, oJ_sJ, oJ_sX, oX_sI, oX_sL, oX_sW, oX_sA, oX_sJ, oX_sX, Nat.reduceEqDiff, n10, n01, hM, sA_sA]
      exact ih
theorem r_bag_l2 (hW : WS N g) (hM : oA M 6 = Nf g) : ∀ (f t : Nat) {X : Nat → Int32}, t ≤ 8 → 8 - t < f → (∀ i, i < (bl g t).2 → X i = nI ((bl g t).1 i)) → okS (pX11_laysBag_l4 f (nI (bl g t).2) (nI t) (sA M 28 X)) (fun r => r.1 = nI (bl g 8).2 ∧ ∃ X', r.2 = sA M 28 X' ∧ ∀ i, i < (bl g 8).2 → X' i = nI ((bl g 8).1 i))
  | 0, _, _, _, h, _ => by omega
  | f + 1, t, X, h1, h2, hX => by
    rw [pX11_laysBag_l4]
    by_cases c : t = 8
    · subst c
      simp (disch := omega) only [l_0, l_1, l_2, l_3, l_4, l_5, l_6, l_7, l_8, l_9, l_10, l_11, l_12, l_13, l_14, l_15, l_16, l_17, l_18, l_19, l_20, l_21, l_22, l_23, l_24, l_25, l_26, l_27, l_28, l_29, l_30, l_31, l_32, l_33, l_34, l_35, l_36, l_40, l_41, l_48, l_56, l_57, l_59, l_60, l_61, l_62, l_63, l_79, l_81, l_88, l_93, l_97, l_99, l_105, l_117, l_121, l_122, l_125, l_127, l_131, l_179, l_185, l_193, l_197, l_200, l_201, l_210, l_255, l_390, l_400, l_616, l_900, l_940, l_999, l_1000, l_1024, e_ltT, e_ltF, e_leT, e_leF, e_eqT, e_eqF, e_cl, e_in, e_gd, e_bd, e_ne, e_en, e_nlt, e_ltn, e_len, e_nle, e_nn, e_z0, e_z1, nI_add, pk_mul, e_sub, Nf_app, e_refl, e_reflN, reduceIte, ite_true_, ite_false_, hM]
      exact okS_some ⟨rfl, X, rfl, hX⟩
    · have b1 := bag_t hW (t := t + 1) (by omega)
      rw [sm] at b1
      obtain ⟨r, w1, w2, X', w3, w4⟩ := r_bag1 hM (t := t) (by omega) (by omega) fu (g (185 + t)) 0 (s := bl g t) (by omega) (by rw [fu_eq]; omega) hX (by rw [bl_n]; omega)
      have ih := r_bag_l2 hW hM f (t + 1) (X := X') (by omega) (by omega) w4
      simp (disch := omega) only [l_0, l_1, l_2, l_3, l_4, l_5, l_6, l_7, l_8, l_9, l_10, l_11, l_12, l_13, l_14, l_15, l_16, l_17, l_18, l_19, l_20, l_21, l_22, l_23, l_24, l_25, l_26, l_27, l_28, l_29, l_30, l_31, l_32, l_33, l_34, l_35, l_36, l_40, l_41, l_48, l_56, l_57, l_59, l_60, l_61, l_62, l_63, l_79, l_81, l_88, l_93, l_97, l_99, l_105, l_117, l_121, l_122, l_125, l_127, l_131, l_179, l_185, l_193, l_197, l_200, l_201, l_210, l_255, l_390, l_400, l_616, l_900, l_940, l_999, l_1000, l_1024, e_ltT, e_ltF, e_leT, e_leF, e_eqT, e_eqF, e_cl, e_in, e_gd, e_bd, e_ne, e_en, e_nlt, e_ltn, e_len, e_nle, e_nn, e_z0, e_z1, nI_add, pk_mul, e_sub, Nf_app, e_refl, e_reflN, reduceIte, ite_true_, ite_false_, w1, w2, w3]
      exact ih
/-! the springs of sets -/
theorem r_ss1 {it : Nat → Nat} {n s : Nat} (hn : n ≤ 10) (hs : s < 2 ^ n) (h28 : ∀ i, i < n → oA M 28 i = nI (it i)) : ∀ (f i : Nat) {Y : Nat → Int32}, i ≤ n → n - i < f → Y s = nI (ss it i s) → okS (pX11_laysBag_l74 (nI n) (nI s) f (nI i) (sA M 27 Y)) (fun M' => ∃ Y', M' = sA M 27 Y' ∧ Y' s = nI (ss it n s) ∧ ∀ t, t ≠ s → Y' t = Y t)
  | 0, _, _, _, h, _ => by omega
  | f + 1, i, Y, h1, h2, hY => by
    have s10 : s < 1024 := Nat.lt_of_lt_of_le hs (Nat.pow_le_pow_right (by decide) hn)
    rw [pX11_laysBag_l74]
    by_cases c : i = n
    · simp (disch := omega) only [l_0, l_1, l_2, l_3, l_4, l_5, l_6, l_7, l_8, l_9, l_10, l_11, l_12, l_13, l_14, l_15, l_16, l_17, l_18, l_19, l_20, l_21, l_22, l_23, l_24, l_25, l_26, l_27, l_28, l_29, l_30, l_31, l_32, l_33, l_34, l_35, l_36, l_40, l_41, l_48, l_56, l_57, l_59, l_60, l_61, l_62, l_63, l_79, l_81, l_88, l_93, l_97, l_99, l_105, l_117, l_121, l_122, l_125, l_127, l_131, l_179, l_185, l_193, l_197, l_200, l_201, l_210, l_255, l_390, l_400, l_616, l_900, l_940, l_999, l_1000, l_1024, e_ltT, e_ltF, e_leT, e_leF, e_eqT, e_eqF, e_cl, e_in, e_gd, e_bd, e_ne, e_en, e_nlt, e_ltn, e_len, e_nle, e_nn, e_z0, e_z1, nI_add, pk_mul, e_sub, Nf_app, e_refl, e_reflN, reduceIte, ite_true_, ite_false_, hn]
      exact okS_some ⟨Y, rfl, by rw [hY, c], fun _ _ => rfl⟩
    · have rb := r_bitOf (s := s) (k := i) (by omega) (by omega)
      have e : ss it (i + 1) s = ss it i s + (if s.testBit i = true then it i else 0) := rfl
      have h28i := h28 i (by omega)
      have fin : ∀ x, x = ss it (i + 1) s → okS (pX11_laysBag_l74 (nI n) (nI s) f (nI (i + 1)) (sA M 27 (va_up Y s (nI x)))) (fun M' => ∃ Y', M' = sA M 27 Y' ∧ Y' s = nI (ss it n s) ∧ ∀ t, t ≠ s → Y' t = Y t) := fun x hx => by
        obtain ⟨M', m1, Y', m2, m3, m4⟩ := r_ss1 hn hs h28 f (i + 1) (Y := va_up Y s (nI x)) (by omega) (by omega) (by rw [uv_eq rfl, hx])
        exact ⟨M', m1, Y', m2, m3, fun t ht => by rw [m4 t ht, uv_ne ht]⟩
      cases cb : s.testBit i with
      | true =>
        rw [cb] at rb e
        rw [if_pos rfl] at e
        simp (disch := omega) only [l_0, l_1, l_2, l_3, l_4, l_5, l_6, l_7, l_8, l_9, l_10, l_11, l_12, l_13, l_14, l_15, l_16, l_17, l_18, l_19, l_20, l_21, l_22, l_23, l_24, l_25, l_26, l_27, l_28, l_29, l_30, l_31, l_32, l_33, l_34, l_35, l_36, l_40, l_41, l_48, l_56, l_57, l_59, l_60, l_61, l_62, l_63, l_79, l_81, l_88, l_93, l_97, l_99, l_105, l_117, l_121, l_122, l_125, l_127, l_131, l_179, l_185, l_193, l_197, l_200, l_201, l_210, l_255, l_390, l_400, l_616, l_900, l_940, l_999, l_1000, l_1024, e_ltT, e_ltF, e_leT, e_leF, e_eqT, e_eqF, e_cl, e_in, e_gd, e_bd, e_ne, e_en, e_nlt, e_ltn, e_len, e_nle, e_nn, e_z0, e_z1, nI_add, pk_mul, e_sub, Nf_app, e_refl, e_reflN, reduceIte, ite_true_, ite_false_, oI_sI, oI_sL, oI_sW, oI_sA, oI_sJ, oI_sX, oL_sI, oL_sL, oL_sW, oL_sA, oL_sJ, oL_sX, oW_sI, oW_sL, oW_sW, oW_sA, oW_sJ, oW_sX, oA_sI, oA_sL, oA_sW, oA_sA, oA_sJ, oA_sX, oJ_sI, oJ_sL, oJ_sW, oJ_sA, oJ_sJ, oJ_sX, oX_sI, oX_sL, oX_sW, oX_sA, oX_sJ, oX_sX, Nat.reduceEqDiff, n10, n01, rb, b01_t, h28i, hY, sA_sA]
        exact fin _ e.symm
      | false =>
        rw [cb] at rb e
        rw [if_neg (by decide)] at e
        simp (disch := omega) only [l_0, l_1, l_2, l_3, l_4, l_5, l_6, l_7, l_8, l_9, l_10, l_11, l_12, l_13, l_14, l_15, l_16, l_17, l_18, l_19, l_20, l_21, l_22, l_23, l_24, l_25, l_26, l_27, l_28, l_29, l_30, l_31, l_32, l_33, l_34, l_35, l_36, l_40, l_41, l_48, l_56, l_57, l_59, l_60, l_61, l_62, l_63, l_79, l_81, l_88, l_93, l_97, l_99, l_105, l_117, l_121, l_122, l_125, l_127, l_131, l_179, l_185, l_193, l_197, l_200, l_201, l_210, l_255, l_390, l_400, l_616, l_900, l_940, l_999, l_1000, l_1024, e_ltT, e_ltF, e_leT, e_leF, e_eqT, e_eqF, e_cl, e_in, e_gd, e_bd, e_ne, e_en, e_nlt, e_ltn, e_len, e_nle, e_nn, e_z0, e_z1, nI_add, pk_mul, e_sub, Nf_app, e_refl, e_reflN, reduceIte, ite_true_, ite_false_, oI_sI, oI_sL, oI_sW, oI_sA, oI_sJ, oI_sX, oL_sI, oL_sL, oL_sW, oL_sA, oL_sJ, oL_sX, oW_sI, oW_sL, oW_sW, oW_sA, oW_sJ, oW_sX, oA_sI, oA_sL, oA_sW, oA_sA, oA_sJ, oA_sX, oJ_sI, oJ_sL, oJ_sW, oJ_sA, oJ_sJ, oJ_sX, oX_sI, oX_sL, oX_sW, oX_sA, oX_sJ, oX_sX, Nat.reduceEqDiff, n10, n01, rb, b01_f, hY, sA_sA]
        exact fin _ e.symm
theorem r_ss {it : Nat → Nat} {n : Nat} (hn : n ≤ 10) (h28 : ∀ i, i < n → oA M 28 i = nI (it i)) : ∀ (f k s : Nat) {Y : Nat → Int32}, s + k = 2 ^ n → k < f → (∀ t, t < s → Y t = nI (ss it n t)) → okS (pX11_laysBag_l58 (nI n) f (nI s) (sA M 27 Y)) (fun M' => ∃ Y', M' = sA M 27 Y' ∧ ∀ t, t < 2 ^ n → Y' t = nI (ss it n t))
  | 0, _, _, _, _, h, _ => by omega
  | f + 1, k, s, Y, h1, h2, hY => by
    have p10 : 2 ^ n ≤ 1024 := Nat.pow_le_pow_right (n := 2) (by decide) hn
    rw [pX11_laysBag_l58]
    cases k with
    | zero =>
      simp (disch := omega) only [l_0, l_1, l_2, l_3, l_4, l_5, l_6, l_7, l_8, l_9, l_10, l_11, l_12, l_13, l_14, l_15, l_16, l_17, l_18, l_19, l_20, l_21, l_22, l_23, l_24, l_25, l_26, l_27, l_28, l_29, l_30, l_31, l_32, l_33, l_34, l_35, l_36, l_40, l_41, l_48, l_56, l_57, l_59, l_60, l_61, l_62, l_63, l_79, l_81, l_88, l_93, l_97, l_99, l_105, l_117, l_121, l_122, l_125, l_127, l_131, l_179, l_185, l_193, l_197, l_200, l_201, l_210, l_255, l_390, l_400, l_616, l_900, l_940, l_999, l_1000, l_1024, e_ltT, e_ltF, e_leT, e_leF, e_eqT, e_eqF, e_cl, e_in, e_gd, e_bd, e_ne, e_en, e_nlt, e_ltn, e_len, e_nle, e_nn, e_z0, e_z1, nI_add, pk_mul, e_sub, Nf_app, e_refl, e_reflN, reduceIte, ite_true_, ite_false_, e_shl]
      exact okS_some ⟨Y, rfl, fun t ht => hY t (by omega)⟩
    | succ k =>
      obtain ⟨M', m1, Y', m2, m3, m4⟩ := r_ss1 (M := M) hn (s := s) (by omega) h28 fu 0 (Y := va_up Y s (nI 0)) (by omega) (by rw [fu_eq]; omega) (by rw [uv_eq rfl]; rfl)
      have ih := r_ss hn h28 f k (s + 1) (Y := Y') (by omega) (by omega) (fun t ht => by
        by_cases e : t = s
        · rw [e]; exact m3
        · rw [m4 t e, uv_ne e]; exact hY t (by omega))
      rw [← m2] at ih
      simp (disch := omega) only [l_0, l_1, l_2, l_3, l_4, l_5, l_6, l_7, l_8, l_9, l_10, l_11, l_12, l_13, l_14, l_15, l_16, l_17, l_18, l_19, l_20, l_21, l_22, l_23, l_24, l_25, l_26, l_27, l_28, l_29, l_30, l_31, l_32, l_33, l_34, l_35, l_36, l_40, l_41, l_48, l_56, l_57, l_59, l_60, l_61, l_62, l_63, l_79, l_81, l_88, l_93, l_97, l_99, l_105, l_117, l_121, l_122, l_125, l_127, l_131, l_179, l_185, l_193, l_197, l_200, l_201, l_210, l_255, l_390, l_400, l_616, l_900, l_940, l_999, l_1000, l_1024, e_ltT, e_ltF, e_leT, e_leF, e_eqT, e_eqF, e_cl, e_in, e_gd, e_bd, e_ne, e_en, e_nlt, e_ltn, e_len, e_nle, e_nn, e_z0, e_z1, nI_add, pk_mul, e_sub, Nf_app, e_refl, e_reflN, reduceIte, ite_true_, ite_false_, oI_sI, oI_sL, oI_sW, oI_sA, oI_sJ, oI_sX, oL_sI, oL_sL, oL_sW, oL_sA, oL_sJ, oL_sX, oW_sI, oW_sL, oW_sW, oW_sA, oW_sJ, oW_sX, oA_sI, oA_sL, oA_sW, oA_sA, oA_sJ, oA_sX, oJ_sI, oJ_sL, oJ_sW, oJ_sA, oJ_sJ, oJ_sX, oX_sI, oX_sL, oX_sW, oX_sA, oX_sJ, oX_sX, Nat.reduceEqDiff, n10, n01, e_shl, sA_sA, m1]
      exact ih
end
