/-! by how few strokes, who is eased in a round -/
def oN : Option Nat → Int32
  | none => -nI 1
  | some n => nI n
def gEl (g : Nat → Nat) (q : Nat) : Nat → Nat → Nat → Nat → Option Nat
  | 0, _, _, n => some n
  | i + 1, top, l, n => if top = 0 then some n else if g 4 < kh g q top then none else if l < kh g q top then gEl g q i (top - kn g q top) (g 4 - kh g q top) (n + 1) else gEl g q i (top - kn g q top) (l - kh g q top) n
theorem gEl_ge (g : Nat → Nat) (q : Nat) : ∀ (i top l n m : Nat), gEl g q i top l n = some m → n ≤ m
  | 0, _, _, n, m, h => by rw [gEl] at h; cases h; exact Nat.le_refl _
  | i + 1, top, l, n, m, h => by
    rw [gEl] at h
    split at h
    · cases h; exact Nat.le_refl _
    · split at h
      · cases h
      · split at h
        · have := gEl_ge g q i _ _ _ m h; omega
        · exact gEl_ge g q i _ _ _ m h
theorem gEl_le (g : Nat → Nat) (q : Nat) : ∀ (i top l n m : Nat), gEl g q i top l n = some m → m ≤ n + i
  | 0, _, _, n, m, h => by rw [gEl] at h; cases h; exact Nat.le_refl _
  | i + 1, top, l, n, m, h => by
    rw [gEl] at h
    split at h
    · cases h; omega
    · split at h
      · cases h
      · split at h
        · have := gEl_le g q i _ _ _ m h; omega
        · have := gEl_le g q i _ _ _ m h; omega
def ez (g : Nat → Nat) (q : Nat) : Option Nat := if g (21 + q) < g (179 + q) + hs g q then (if g (125 + q) = 0 then some 0 else none) else gEl g q 8 (g (125 + q)) 0 0
section
variable {N : Nat} {g : Nat → Nat} {M V V2 V8 : Ob}
theorem gEl_s (i top l n q : Nat) (h : ¬ top = 0) : gEl g q (i + 1) top l n = if g 4 < kh g q top then none else if l < kh g q top then gEl g q i (top - kn g q top) (g 4 - kh g q top) (n + 1) else gEl g q i (top - kn g q top) (l - kh g q top) n := by rw [gEl, if_neg h]
theorem gEl_z (i l n q : Nat) : gEl g q i 0 l n = some n := by
  cases i with
  | zero => rfl
  | succ i => rw [gEl, if_pos rfl]
theorem r_ease_l (hQ : WQ g) (hW : WS N g) (hM : oA M 6 = Nf g) {q : Nat} (hq : q < 6) : ∀ (f i k l n : Nat), k ≤ g (125 + q) → g (125 + q) - k ≤ i → i < f → l < 1000 → pX11_easeBy_l53 M (nI q) f (nI n) (nI l) (nI k) = some (oN (gEl g q i (g (125 + q) - k) l n))
  | 0, _, _, _, _, _, _, h, _ => by omega
  | f + 1, i, k, l, n, h1, h2, h3, hl => by
    have hL := w_long hW hq
    have h4 := w_g4 hQ
    rw [pX11_easeBy_l53]
    by_cases hz : k = g (125 + q)
    · rw [show g (125 + q) - k = 0 by omega, gEl_z, oN]
      simp (disch := omega) only [l_0, l_1, l_2, l_3, l_4, l_5, l_6, l_7, l_8, l_9, l_10, l_11, l_12, l_13, l_14, l_15, l_16, l_17, l_18, l_19, l_20, l_21, l_22, l_23, l_24, l_25, l_26, l_27, l_28, l_29, l_30, l_31, l_32, l_33, l_34, l_35, l_36, l_40, l_41, l_48, l_56, l_57, l_59, l_60, l_61, l_62, l_63, l_79, l_81, l_88, l_93, l_97, l_99, l_105, l_117, l_121, l_122, l_125, l_127, l_131, l_179, l_185, l_193, l_197, l_200, l_201, l_210, l_255, l_390, l_400, l_616, l_900, l_940, l_999, l_1000, l_1024, e_ltT, e_ltF, e_leT, e_leF, e_eqT, e_eqF, e_cl, e_in, e_gd, e_bd, e_ne, e_en, e_nlt, e_ltn, e_len, e_nle, e_nn, e_z0, e_z1, nI_add, pk_mul, e_sub, Nf_app, e_refl, e_reflN, reduceIte, ite_true_, ite_false_, hM]
    · obtain ⟨j, rfl⟩ : ∃ j, i = j + 1 := ⟨i - 1, by omega⟩
      have hk : k < g (125 + q) := by omega
      have k1 := r_kh hQ hW hM hq hk
      have k2 := kh_le hQ hW hq (top := g (125 + q) - k) (by omega)
      have k3 := r_knot hQ hW hM hq hk
      have k4 := kn_pos g q (top := g (125 + q) - k) (by omega)
      have k5 := kn_le g q (g (125 + q) - k)
      have e1 : g (125 + q) - (k + kn g q (g (125 + q) - k)) = g (125 + q) - k - kn g q (g (125 + q) - k) := by omega
      rw [gEl_s _ _ _ _ _ (by omega)]
      by_cases c1 : g 4 < kh g q (g (125 + q) - k)
      · simp only [if_pos c1, oN]
        simp (disch := omega) only [l_0, l_1, l_2, l_3, l_4, l_5, l_6, l_7, l_8, l_9, l_10, l_11, l_12, l_13, l_14, l_15, l_16, l_17, l_18, l_19, l_20, l_21, l_22, l_23, l_24, l_25, l_26, l_27, l_28, l_29, l_30, l_31, l_32, l_33, l_34, l_35, l_36, l_40, l_41, l_48, l_56, l_57, l_59, l_60, l_61, l_62, l_63, l_79, l_81, l_88, l_93, l_97, l_99, l_105, l_117, l_121, l_122, l_125, l_127, l_131, l_179, l_185, l_193, l_197, l_200, l_201, l_210, l_255, l_390, l_400, l_616, l_900, l_940, l_999, l_1000, l_1024, e_ltT, e_ltF, e_leT, e_leF, e_eqT, e_eqF, e_cl, e_in, e_gd, e_bd, e_ne, e_en, e_nlt, e_ltn, e_len, e_nle, e_nn, e_z0, e_z1, nI_add, pk_mul, e_sub, Nf_app, e_refl, e_reflN, reduceIte, ite_true_, ite_false_, hM, k1]
      · by_cases c2 : l < kh g q (g (125 + q) - k)
        · simp only [if_neg c1, if_pos c2]
          have ih := r_ease_l hQ hW hM hq f j (k + kn g q (g (125 + q) - k)) (g 4 - kh g q (g (125 + q) - k)) (n + 1) (by omega) (by omega) (by omega) (by omega)
          rw [e1] at ih
          simp (disch := omega) only [l_0, l_1, l_2, l_3, l_4, l_5, l_6, l_7, l_8, l_9, l_10, l_11, l_12, l_13, l_14, l_15, l_16, l_17, l_18, l_19, l_20, l_21, l_22, l_23, l_24, l_25, l_26, l_27, l_28, l_29, l_30, l_31, l_32, l_33, l_34, l_35, l_36, l_40, l_41, l_48, l_56, l_57, l_59, l_60, l_61, l_62, l_63, l_79, l_81, l_88, l_93, l_97, l_99, l_105, l_117, l_121, l_122, l_125, l_127, l_131, l_179, l_185, l_193, l_197, l_200, l_201, l_210, l_255, l_390, l_400, l_616, l_900, l_940, l_999, l_1000, l_1024, e_ltT, e_ltF, e_leT, e_leF, e_eqT, e_eqF, e_cl, e_in, e_gd, e_bd, e_ne, e_en, e_nlt, e_ltn, e_len, e_nle, e_nn, e_z0, e_z1, nI_add, pk_mul, e_sub, Nf_app, e_refl, e_reflN, reduceIte, ite_true_, ite_false_, hM, k1, pX11_easeBy_j105, k3, ih]
        · simp only [if_neg c1, if_neg c2]
          have ih := r_ease_l hQ hW hM hq f j (k + kn g q (g (125 + q) - k)) (l - kh g q (g (125 + q) - k)) n (by omega) (by omega) (by omega) (by omega)
          rw [e1] at ih
          simp (disch := omega) only [l_0, l_1, l_2, l_3, l_4, l_5, l_6, l_7, l_8, l_9, l_10, l_11, l_12, l_13, l_14, l_15, l_16, l_17, l_18, l_19, l_20, l_21, l_22, l_23, l_24, l_25, l_26, l_27, l_28, l_29, l_30, l_31, l_32, l_33, l_34, l_35, l_36, l_40, l_41, l_48, l_56, l_57, l_59, l_60, l_61, l_62, l_63, l_79, l_81, l_88, l_93, l_97, l_99, l_105, l_117, l_121, l_122, l_125, l_127, l_131, l_179, l_185, l_193, l_197, l_200, l_201, l_210, l_255, l_390, l_400, l_616, l_900, l_940, l_999, l_1000, l_1024, e_ltT, e_ltF, e_leT, e_leF, e_eqT, e_eqF, e_cl, e_in, e_gd, e_bd, e_ne, e_en, e_nlt, e_ltn, e_len, e_nle, e_nn, e_z0, e_z1, nI_add, pk_mul, e_sub, Nf_app, e_refl, e_reflN, reduceIte, ite_true_, ite_false_, hM, k1, pX11_easeBy_j105, k3, ih]
theorem r_ease (hQ : WQ g) (hW : WS N g) (hM : oA M 6 = Nf g) {q : Nat} (hq : q < g 1) : pX11_easeBy M (nI q) = some (oN (ez g q)) := by
  have g1 := w_g1 hQ
  have hq6 : q < 6 := by omega
  have hL := w_long hW hq6
  have hp := hW.2.2.1 q hq
  have hb_ := w_bear hQ hq
  have hh := hs_le hQ hW hq6
  have h1 := r_holds hQ hW hM hq6
  have h2 := r_ease_l hQ hW hM hq6 fu 8 0 0 0 (by omega) (by omega) (by rw [fu_eq]; omega) (by omega)
  rw [Nat.sub_zero] at h2
  unfold pX11_easeBy ez
  by_cases c : g (21 + q) < g (179 + q) + hs g q
  · by_cases c0 : g (125 + q) = 0
    · simp only [if_pos c, if_pos c0, oN]
      simp (disch := omega) only [l_0, l_1, l_2, l_3, l_4, l_5, l_6, l_7, l_8, l_9, l_10, l_11, l_12, l_13, l_14, l_15, l_16, l_17, l_18, l_19, l_20, l_21, l_22, l_23, l_24, l_25, l_26, l_27, l_28, l_29, l_30, l_31, l_32, l_33, l_34, l_35, l_36, l_40, l_41, l_48, l_56, l_57, l_59, l_60, l_61, l_62, l_63, l_79, l_81, l_88, l_93, l_97, l_99, l_105, l_117, l_121, l_122, l_125, l_127, l_131, l_179, l_185, l_193, l_197, l_200, l_201, l_210, l_255, l_390, l_400, l_616, l_900, l_940, l_999, l_1000, l_1024, e_ltT, e_ltF, e_leT, e_leF, e_eqT, e_eqF, e_cl, e_in, e_gd, e_bd, e_ne, e_en, e_nlt, e_ltn, e_len, e_nle, e_nn, e_z0, e_z1, nI_add, pk_mul, e_sub, Nf_app, e_refl, e_reflN, reduceIte, ite_true_, ite_false_, hM, h1]
    · simp only [if_pos c, if_neg c0, oN]
      simp (disch := omega) only [l_0, l_1, l_2, l_3, l_4, l_5, l_6, l_7, l_8, l_9, l_10, l_11, l_12, l_13, l_14, l_15, l_16, l_17, l_18, l_19, l_20, l_21, l_22, l_23, l_24, l_25, l_26, l_27, l_28, l_29, l_30, l_31, l_32, l_33, l_34, l_35, l_36, l_40, l_41, l_48, l_56, l_57, l_59, l_60, l_61, l_62, l_63, l_79, l_81, l_88, l_93, l_97, l_99, l_105, l_117, l_121, l_122, l_125, l_127, l_131, l_179, l_185, l_193, l_197, l_200, l_201, l_210, l_255, l_390, l_400, l_616, l_900, l_940, l_999, l_1000, l_1024, e_ltT, e_ltF, e_leT, e_leF, e_eqT, e_eqF, e_cl, e_in, e_gd, e_bd, e_ne, e_en, e_nlt, e_ltn, e_len, e_nle, e_nn, e_z0, e_z1, nI_add, pk_mul, e_sub, Nf_app, e_refl, e_reflN, reduceIte, ite_true_, ite_false_, hM, h1]
  · simp only [if_neg c]
    simp (disch := omega) only [l_0, l_1, l_2, l_3, l_4, l_5, l_6, l_7, l_8, l_9, l_10, l_11, l_12, l_13, l_14, l_15, l_16, l_17, l_18, l_19, l_20, l_21, l_22, l_23, l_24, l_25, l_26, l_27, l_28, l_29, l_30, l_31, l_32, l_33, l_34, l_35, l_36, l_40, l_41, l_48, l_56, l_57, l_59, l_60, l_61, l_62, l_63, l_79, l_81, l_88, l_93, l_97, l_99, l_105, l_117, l_121, l_122, l_125, l_127, l_131, l_179, l_185, l_193, l_197, l_200, l_201, l_210, l_255, l_390, l_400, l_616, l_900, l_940, l_999, l_1000, l_1024, e_ltT, e_ltF, e_leT, e_leF, e_eqT, e_eqF, e_cl, e_in, e_gd, e_bd, e_ne, e_en, e_nlt, e_ltn, e_len, e_nle, e_nn, e_z0, e_z1, nI_add, pk_mul, e_sub, Nf_app, e_refl, e_reflN, reduceIte, ite_true_, ite_false_, hM, h1, h2]
theorem c_ease_l (hQ : WQ g) (hW : WS N g) (hR : QR V2 g) (hS : SR V g) {q : Nat} (hq : q < 6) : ∀ (f i top l n : Nat), top ≤ g (125 + q) → top ≤ i → i ≤ 8 → i < f → l < 1000 → pX3_fewestStrokes_l41 V8 V2 V (nI q) f (nI n) (nI l) (nI top) (nI (8 - i)) = some (oN (gEl g q i top l n))
  | 0, _, _, _, _, _, _, _, h, _ => by omega
  | f + 1, i, top, l, n, h1, h2, h8, h3, hl => by
    have hL := w_long hW hq
    have h4 := w_g4 hQ
    rw [pX3_fewestStrokes_l41]
    by_cases hz : top = 0
    · subst hz
      rw [gEl_z, oN]
      by_cases c8 : i = 0
      · subst c8; simp (disch := omega) only [l_0, l_1, l_2, l_3, l_4, l_5, l_6, l_7, l_8, l_9, l_10, l_11, l_12, l_13, l_14, l_15, l_16, l_17, l_18, l_19, l_20, l_21, l_22, l_23, l_24, l_25, l_26, l_27, l_28, l_29, l_30, l_31, l_32, l_33, l_34, l_35, l_36, l_40, l_41, l_48, l_56, l_57, l_59, l_60, l_61, l_62, l_63, l_79, l_81, l_88, l_93, l_97, l_99, l_105, l_117, l_121, l_122, l_125, l_127, l_131, l_179, l_185, l_193, l_197, l_200, l_201, l_210, l_255, l_390, l_400, l_616, l_900, l_940, l_999, l_1000, l_1024, e_ltT, e_ltF, e_leT, e_leF, e_eqT, e_eqF, e_cl, e_in, e_gd, e_bd, e_ne, e_en, e_nlt, e_ltn, e_len, e_nle, e_nn, e_z0, e_z1, nI_add, pk_mul, e_sub, Nf_app, e_refl, e_reflN, reduceIte, ite_true_, ite_false_, q_14 hR]
      · simp (disch := omega) only [l_0, l_1, l_2, l_3, l_4, l_5, l_6, l_7, l_8, l_9, l_10, l_11, l_12, l_13, l_14, l_15, l_16, l_17, l_18, l_19, l_20, l_21, l_22, l_23, l_24, l_25, l_26, l_27, l_28, l_29, l_30, l_31, l_32, l_33, l_34, l_35, l_36, l_40, l_41, l_48, l_56, l_57, l_59, l_60, l_61, l_62, l_63, l_79, l_81, l_88, l_93, l_97, l_99, l_105, l_117, l_121, l_122, l_125, l_127, l_131, l_179, l_185, l_193, l_197, l_200, l_201, l_210, l_255, l_390, l_400, l_616, l_900, l_940, l_999, l_1000, l_1024, e_ltT, e_ltF, e_leT, e_leF, e_eqT, e_eqF, e_cl, e_in, e_gd, e_bd, e_ne, e_en, e_nlt, e_ltn, e_len, e_nle, e_nn, e_z0, e_z1, nI_add, pk_mul, e_sub, Nf_app, e_refl, e_reflN, reduceIte, ite_true_, ite_false_, q_14 hR]
    · obtain ⟨j, rfl⟩ : ∃ j, i = j + 1 := ⟨i - 1, by omega⟩
      have k1 := c_holdAt hQ hW hR hS hq (k := top - 1) (by omega)
      have k2 := kh_le hQ hW hq (top := top) (by omega)
      have k3 := c_knot hQ hW hS hq (top := top) h1
      have k4 := kn_pos g q (top := top) (by omega)
      have k5 := kn_le g q top
      have kk : kn g q top * g (5 + g (131 + 8 * q + (top - 1))) = kh g q top := rfl
      have x2 : 8 - (j + 1) + 1 = 8 - j := by omega
      rw [gEl_s _ _ _ _ _ (by omega)]
      by_cases c1 : g 4 < kh g q top
      · simp only [if_pos c1, oN]
        simp (disch := omega) only [l_0, l_1, l_2, l_3, l_4, l_5, l_6, l_7, l_8, l_9, l_10, l_11, l_12, l_13, l_14, l_15, l_16, l_17, l_18, l_19, l_20, l_21, l_22, l_23, l_24, l_25, l_26, l_27, l_28, l_29, l_30, l_31, l_32, l_33, l_34, l_35, l_36, l_40, l_41, l_48, l_56, l_57, l_59, l_60, l_61, l_62, l_63, l_79, l_81, l_88, l_93, l_97, l_99, l_105, l_117, l_121, l_122, l_125, l_127, l_131, l_179, l_185, l_193, l_197, l_200, l_201, l_210, l_255, l_390, l_400, l_616, l_900, l_940, l_999, l_1000, l_1024, e_ltT, e_ltF, e_leT, e_leF, e_eqT, e_eqF, e_cl, e_in, e_gd, e_bd, e_ne, e_en, e_nlt, e_ltn, e_len, e_nle, e_nn, e_z0, e_z1, nI_add, pk_mul, e_sub, Nf_app, e_refl, e_reflN, reduceIte, ite_true_, ite_false_, q_14 hR, k3, k1, kk]
      · by_cases c2 : l < kh g q top
        · simp only [if_neg c1, if_pos c2]
          have ih := c_ease_l hQ hW hR hS hq f j (top - kn g q top) (g 4 - kh g q top) (n + 1) (by omega) (by omega) (by omega) (by omega) (by omega)
          simp (disch := omega) only [l_0, l_1, l_2, l_3, l_4, l_5, l_6, l_7, l_8, l_9, l_10, l_11, l_12, l_13, l_14, l_15, l_16, l_17, l_18, l_19, l_20, l_21, l_22, l_23, l_24, l_25, l_26, l_27, l_28, l_29, l_30, l_31, l_32, l_33, l_34, l_35, l_36, l_40, l_41, l_48, l_56, l_57, l_59, l_60, l_61, l_62, l_63, l_79, l_81, l_88, l_93, l_97, l_99, l_105, l_117, l_121, l_122, l_125, l_127, l_131, l_179, l_185, l_193, l_197, l_200, l_201, l_210, l_255, l_390, l_400, l_616, l_900, l_940, l_999, l_1000, l_1024, e_ltT, e_ltF, e_leT, e_leF, e_eqT, e_eqF, e_cl, e_in, e_gd, e_bd, e_ne, e_en, e_nlt, e_ltn, e_len, e_nle, e_nn, e_z0, e_z1, nI_add, pk_mul, e_sub, Nf_app, e_refl, e_reflN, reduceIte, ite_true_, ite_false_, q_14 hR, k3, k1, kk, pX3_fewestStrokes_j104, x2, ih]
        · simp only [if_neg c1, if_neg c2]
          have ih := c_ease_l hQ hW hR hS hq f j (top - kn g q top) (l - kh g q top) n (by omega) (by omega) (by omega) (by omega) (by omega)
          simp (disch := omega) only [l_0, l_1, l_2, l_3, l_4, l_5, l_6, l_7, l_8, l_9, l_10, l_11, l_12, l_13, l_14, l_15, l_16, l_17, l_18, l_19, l_20, l_21, l_22, l_23, l_24, l_25, l_26, l_27, l_28, l_29, l_30, l_31, l_32, l_33, l_34, l_35, l_36, l_40, l_41, l_48, l_56, l_57, l_59, l_60, l_61, l_62, l_63, l_79, l_81, l_88, l_93, l_97, l_99, l_105, l_117, l_121, l_122, l_125, l_127, l_131, l_179, l_185, l_193, l_197, l_200, l_201, l_210, l_255, l_390, l_400, l_616, l_900, l_940, l_999, l_1000, l_1024, e_ltT, e_ltF, e_leT, e_leF, e_eqT, e_eqF, e_cl, e_in, e_gd, e_bd, e_ne, e_en, e_nlt, e_ltn, e_len, e_nle, e_nn, e_z0, e_z1, nI_add, pk_mul, e_sub, Nf_app, e_refl, e_reflN, reduceIte, ite_true_, ite_false_, q_14 hR, k3, k1, kk, pX3_fewestStrokes_j104, x2, ih]
theorem hs_pos (hQ : WQ g) (hW : WS N g) {q : Nat} (hq : q < 6) (hl : 0 < g (125 + q)) : 0 < hs g q := by
  have h1 := sm_ge (fun k => g (5 + hr g q k)) (i := 0) (n := g (125 + q)) hl
  have h2 := (w_hold hQ (w_th hW hq hl)).1
  have h3 : g (5 + hr g q 0) ≤ hs g q := h1
  have h4 : 1 ≤ g (5 + hr g q 0) := h2
  omega
theorem c_ease (hQ : WQ g) (hW : WS N g) (hR : QR V2 g) (hS : SR V g) {q : Nat} (hq : q < g 1) : pX3_fewestStrokes V8 V2 V (nI q) = some (oN (ez g q)) := by
  have g1 := w_g1 hQ
  have hq6 : q < 6 := by omega
  have hL := w_long hW hq6
  have hp := hW.2.2.1 q hq
  have hb_ := w_bear hQ hq
  have hh := hs_le hQ hW hq6
  have h1 := c_holds hQ hW hR hS hq6
  have h2 := c_ease_l (V8 := V8) hQ hW hR hS hq6 fu 8 (g (125 + q)) 0 0 (by omega) (by omega) (by omega) (by rw [fu_eq]; omega) (by omega)
  rw [Nat.sub_self] at h2
  unfold pX3_fewestStrokes ez
  by_cases c : g (21 + q) < g (179 + q) + hs g q
  · have c0 : ¬ g (125 + q) = 0 := fun e => by
      have : hs g q = 0 := by unfold hs; rw [e]; rfl
      omega
    simp only [if_pos c, if_neg c0, oN]
    simp (disch := omega) only [l_0, l_1, l_2, l_3, l_4, l_5, l_6, l_7, l_8, l_9, l_10, l_11, l_12, l_13, l_14, l_15, l_16, l_17, l_18, l_19, l_20, l_21, l_22, l_23, l_24, l_25, l_26, l_27, l_28, l_29, l_30, l_31, l_32, l_33, l_34, l_35, l_36, l_40, l_41, l_48, l_56, l_57, l_59, l_60, l_61, l_62, l_63, l_79, l_81, l_88, l_93, l_97, l_99, l_105, l_117, l_121, l_122, l_125, l_127, l_131, l_179, l_185, l_193, l_197, l_200, l_201, l_210, l_255, l_390, l_400, l_616, l_900, l_940, l_999, l_1000, l_1024, e_ltT, e_ltF, e_leT, e_leF, e_eqT, e_eqF, e_cl, e_in, e_gd, e_bd, e_ne, e_en, e_nlt, e_ltn, e_len, e_nle, e_nn, e_z0, e_z1, nI_add, pk_mul, e_sub, Nf_app, e_refl, e_reflN, reduceIte, ite_true_, ite_false_, h1, q_6 hR, s_2 hS]
  · simp only [if_neg c]
    simp (disch := omega) only [l_0, l_1, l_2, l_3, l_4, l_5, l_6, l_7, l_8, l_9, l_10, l_11, l_12, l_13, l_14, l_15, l_16, l_17, l_18, l_19, l_20, l_21, l_22, l_23, l_24, l_25, l_26, l_27, l_28, l_29, l_30, l_31, l_32, l_33, l_34, l_35, l_36, l_40, l_41, l_48, l_56, l_57, l_59, l_60, l_61, l_62, l_63, l_79, l_81, l_88, l_93, l_97, l_99, l_105, l_117, l_121, l_122, l_125, l_127, l_131, l_179, l_185, l_193, l_197, l_200, l_201, l_210, l_255, l_390, l_400, l_616, l_900, l_940, l_999, l_1000, l_1024, e_ltT, e_ltF, e_leT, e_leF, e_eqT, e_eqF, e_cl, e_in, e_gd, e_bd, e_ne, e_en, e_nlt, e_ltn, e_len, e_nle, e_nn, e_z0, e_z1, nI_add, pk_mul, e_sub, Nf_app, e_refl, e_reflN, reduceIte, ite_true_, ite_false_, h1, q_6 hR, s_2 hS, s_1 hS, h2]
theorem ez_pos (hQ : WQ g) (hW : WS N g) {q : Nat} (hq : q < 6) {n : Nat} (h : ez g q = some n) : n ≤ 8 ∧ (0 < n ↔ 0 < g (125 + q)) := by
  unfold ez at h
  split at h
  · split at h
    · cases h; omega
    · cases h
  · have u := gEl_le g q 8 _ _ _ _ h
    refine ⟨by omega, ?_⟩
    by_cases c : g (125 + q) = 0
    · rw [c, gEl_z] at h
      cases h; omega
    · have kp := kh_pos hQ hW hq (top := g (125 + q)) (Nat.le_refl _) (by omega)
      rw [gEl_s _ _ _ _ _ c] at h
      split at h
      · cases h
      · have := gEl_ge g q _ _ _ _ _ h
        omega
/-! rounds -/
def pc (n : Nat) : Nat := n % 2 + n / 2 % 2 + n / 4 % 2 + n / 8 % 2 + n / 16 % 2 + n / 32 % 2
set_option maxRecDepth 10000 in
theorem r_bitsA : ∀ n, n < 64 → pX11_bits (nI n) = some (nI (pc n)) := by decide +kernel
set_option maxRecDepth 10000 in
theorem c_bitsA : ∀ n, n < 64 → pJ6_bitCount_0f7a4 (nI n) = some (nI (pc n)) := by decide +kernel
theorem r_bits {n : Nat} (h : n < 64) : pX11_bits (nI n) = some (nI (pc n)) := r_bitsA n h
theorem c_bits {n : Nat} (h : n < 64) : pJ6_bitCount_0f7a4 (nI n) = some (nI (pc n)) := c_bitsA n h
theorem pc_le (n : Nat) : pc n ≤ 6 := by unfold pc; omega
def cn (g : Nat → Nat) (q : Nat) : Bool := decide (0 < g (125 + q)) && (ez g q).isSome
def sc (g : Nat → Nat) (s : Nat) : Nat → Nat := sm (fun q => if s.testBit q then hs g q else 0)
def oc (g : Nat → Nat) (s : Nat) : Nat → Bool
  | 0 => true
  | k + 1 => oc g s k && (!s.testBit k || cn g k)
theorem oc_f {s k : Nat} : ∀ {n : Nat}, k ≤ n → oc g s k = false → oc g s n = false
  | 0, h, e => by have : k = 0 := by omega
                  subst this; exact e
  | n + 1, h, e => by
    by_cases c : k = n + 1
    · subst c; exact e
    · rw [oc, oc_f (n := n) (by omega) e]; rfl
theorem sc_le (hQ : WQ g) (hW : WS N g) (s : Nat) {k : Nat} (hk : k ≤ 6) : sc g s k ≤ 432 := by
  have h := sm_le (f := fun q => if s.testBit q then hs g q else 0) (c := 72) (n := k) (fun q hq => by
    have := hs_le hQ hW (q := q) (by omega)
    split <;> omega)
  unfold sc; omega
theorem r_bitOf {s k : Nat} (hs_ : s < 2147483648) (hk : k < 31) : pX11_bitOf (nI s) (nI k) = some (nI (b01 (s.testBit k))) := by
  unfold pX11_bitOf
  cases c : s.testBit k with
  | true => simp (disch := first | omega | assumption) only [l_1, l_0, l_31, e_bitT, reduceIte, b01_t]
  | false => simp (disch := first | omega | assumption) only [l_1, l_0, l_31, e_bitF, reduceIte, b01_f]
theorem r_rc (hQ : WQ g) (hW : WS N g) (hM : oA M 6 = Nf g) {s : Nat} (hs_ : s < 64) (l1 l2 l3 : Int32) : ∀ (f k : Nat), k ≤ g 1 → g 1 - k < f → pX11_round_l47 M l1 l2 l3 (nI s) f (nI (sc g s k)) (nI (b01 (oc g s k))) (nI k) = some (nI (sc g s (g 1)), nI (b01 (oc g s (g 1))))
  | 0, _, _, h => by omega
  | f + 1, k, h1, h2 => by
    have g1 := w_g1 hQ
    rw [pX11_round_l47]
    by_cases hz : k = g 1
    · simp (disch := omega) only [l_0, l_1, l_2, l_3, l_4, l_5, l_6, l_7, l_8, l_9, l_10, l_11, l_12, l_13, l_14, l_15, l_16, l_17, l_18, l_19, l_20, l_21, l_22, l_23, l_24, l_25, l_26, l_27, l_28, l_29, l_30, l_31, l_32, l_33, l_34, l_35, l_36, l_40, l_41, l_48, l_56, l_57, l_59, l_60, l_61, l_62, l_63, l_79, l_81, l_88, l_93, l_97, l_99, l_105, l_117, l_121, l_122, l_125, l_127, l_131, l_179, l_185, l_193, l_197, l_200, l_201, l_210, l_255, l_390, l_400, l_616, l_900, l_940, l_999, l_1000, l_1024, e_ltT, e_ltF, e_leT, e_leF, e_eqT, e_eqF, e_cl, e_in, e_gd, e_bd, e_ne, e_en, e_nlt, e_ltn, e_len, e_nle, e_nn, e_z0, e_z1, nI_add, pk_mul, e_sub, Nf_app, e_refl, e_reflN, reduceIte, ite_true_, ite_false_, hM]
      rw [hz]
    · have hk : k < g 1 := by omega
      have ih := r_rc hQ hW hM hs_ l1 l2 l3 f (k + 1) (by omega) (by omega)
      have rb := r_bitOf (s := s) (k := k) (by omega) (by omega)
      have h3 := r_holds hQ hW hM (q := k) (by omega)
      have e1 : sc g s (k + 1) = sc g s k + (if s.testBit k then hs g k else 0) := rfl
      have e2 : oc g s (k + 1) = (oc g s k && (!s.testBit k || cn g k)) := rfl
      rw [e1, e2] at ih
      cases cb : s.testBit k with
      | false =>
        rw [cb] at rb ih
        simp only [Bool.not_false, Bool.true_or, Bool.and_true, Bool.false_eq_true, reduceIte, Nat.add_zero] at ih
        simp (disch := omega) only [l_0, l_1, l_2, l_3, l_4, l_5, l_6, l_7, l_8, l_9, l_10, l_11, l_12, l_13, l_14, l_15, l_16, l_17, l_18, l_19, l_20, l_21, l_22, l_23, l_24, l_25, l_26, l_27, l_28, l_29, l_30, l_31, l_32, l_33, l_34, l_35, l_36, l_40, l_41, l_48, l_56, l_57, l_59, l_60, l_61, l_62, l_63, l_79, l_81, l_88, l_93, l_97, l_99, l_105, l_117, l_121, l_122, l_125, l_127, l_131, l_179, l_185, l_193, l_197, l_200, l_201, l_210, l_255, l_390, l_400, l_616, l_900, l_940, l_999, l_1000, l_1024, e_ltT, e_ltF, e_leT, e_leF, e_eqT, e_eqF, e_cl, e_in, e_gd, e_bd, e_ne, e_en, e_nlt, e_ltn, e_len, e_nle, e_nn, e_z0, e_z1, nI_add, pk_mul, e_sub, Nf_app, e_refl, e_reflN, reduceIte, ite_true_, ite_false_, hM, rb, b01_f, ih]
      | true =>
        rw [cb] at rb ih
        simp only [Bool.not_true, Bool.false_or, reduceIte] at ih
        cases co : oc g s k with
        | false =>
          rw [co, Bool.false_and] at ih
          simp (disch := omega) only [l_0, l_1, l_2, l_3, l_4, l_5, l_6, l_7, l_8, l_9, l_10, l_11, l_12, l_13, l_14, l_15, l_16, l_17, l_18, l_19, l_20, l_21, l_22, l_23, l_24, l_25, l_26, l_27, l_28, l_29, l_30, l_31, l_32, l_33, l_34, l_35, l_36, l_40, l_41, l_48, l_56, l_57, l_59, l_60, l_61, l_62, l_63, l_79, l_81, l_88, l_93, l_97, l_99, l_105, l_117, l_121, l_122, l_125, l_127, l_131, l_179, l_185, l_193, l_197, l_200, l_201, l_210, l_255, l_390, l_400, l_616, l_900, l_940, l_999, l_1000, l_1024, e_ltT, e_ltF, e_leT, e_leF, e_eqT, e_eqF, e_cl, e_in, e_gd, e_bd, e_ne, e_en, e_nlt, e_ltn, e_len, e_nle, e_nn, e_z0, e_z1, nI_add, pk_mul, e_sub, Nf_app, e_refl, e_reflN, reduceIte, ite_true_, ite_false_, hM, rb, b01_t, b01_f, pX11_round_j89, pX11_round_j90, h3]
          rw [b01_f] at ih
          exact ih
        | true =>
          rw [co, Bool.true_and] at ih
          have he := r_ease hQ hW hM hk
          cases cc : ez g k with
          | none =>
            rw [cc, oN] at he
            have : cn g k = false := by unfold cn; rw [cc]; simp
            rw [this, b01_f] at ih
            simp (disch := omega) only [l_0, l_1, l_2, l_3, l_4, l_5, l_6, l_7, l_8, l_9, l_10, l_11, l_12, l_13, l_14, l_15, l_16, l_17, l_18, l_19, l_20, l_21, l_22, l_23, l_24, l_25, l_26, l_27, l_28, l_29, l_30, l_31, l_32, l_33, l_34, l_35, l_36, l_40, l_41, l_48, l_56, l_57, l_59, l_60, l_61, l_62, l_63, l_79, l_81, l_88, l_93, l_97, l_99, l_105, l_117, l_121, l_122, l_125, l_127, l_131, l_179, l_185, l_193, l_197, l_200, l_201, l_210, l_255, l_390, l_400, l_616, l_900, l_940, l_999, l_1000, l_1024, e_ltT, e_ltF, e_leT, e_leF, e_eqT, e_eqF, e_cl, e_in, e_gd, e_bd, e_ne, e_en, e_nlt, e_ltn, e_len, e_nle, e_nn, e_z0, e_z1, nI_add, pk_mul, e_sub, Nf_app, e_refl, e_reflN, reduceIte, ite_true_, ite_false_, hM, rb, b01_t, he, pX11_round_j89, pX11_round_j90, h3]
            exact ih
          | some n =>
            rw [cc, oN] at he
            obtain ⟨p1, p2⟩ := ez_pos hQ hW (q := k) (by omega) cc
            by_cases c0 : 0 < g (125 + k)
            · have : cn g k = true := by unfold cn; rw [cc]; simp [c0]
              rw [this, b01_t] at ih
              have hn := p2.mpr c0
              simp (disch := omega) only [l_0, l_1, l_2, l_3, l_4, l_5, l_6, l_7, l_8, l_9, l_10, l_11, l_12, l_13, l_14, l_15, l_16, l_17, l_18, l_19, l_20, l_21, l_22, l_23, l_24, l_25, l_26, l_27, l_28, l_29, l_30, l_31, l_32, l_33, l_34, l_35, l_36, l_40, l_41, l_48, l_56, l_57, l_59, l_60, l_61, l_62, l_63, l_79, l_81, l_88, l_93, l_97, l_99, l_105, l_117, l_121, l_122, l_125, l_127, l_131, l_179, l_185, l_193, l_197, l_200, l_201, l_210, l_255, l_390, l_400, l_616, l_900, l_940, l_999, l_1000, l_1024, e_ltT, e_ltF, e_leT, e_leF, e_eqT, e_eqF, e_cl, e_in, e_gd, e_bd, e_ne, e_en, e_nlt, e_ltn, e_len, e_nle, e_nn, e_z0, e_z1, nI_add, pk_mul, e_sub, Nf_app, e_refl, e_reflN, reduceIte, ite_true_, ite_false_, hM, rb, b01_t, he, pX11_round_j89, pX11_round_j90, h3]
              exact ih
            · have : cn g k = false := by unfold cn; rw [cc]; simp [c0]
              rw [this, b01_f] at ih
              have hn : n = 0 := by omega
              simp (disch := omega) only [l_0, l_1, l_2, l_3, l_4, l_5, l_6, l_7, l_8, l_9, l_10, l_11, l_12, l_13, l_14, l_15, l_16, l_17, l_18, l_19, l_20, l_21, l_22, l_23, l_24, l_25, l_26, l_27, l_28, l_29, l_30, l_31, l_32, l_33, l_34, l_35, l_36, l_40, l_41, l_48, l_56, l_57, l_59, l_60, l_61, l_62, l_63, l_79, l_81, l_88, l_93, l_97, l_99, l_105, l_117, l_121, l_122, l_125, l_127, l_131, l_179, l_185, l_193, l_197, l_200, l_201, l_210, l_255, l_390, l_400, l_616, l_900, l_940, l_999, l_1000, l_1024, e_ltT, e_ltF, e_leT, e_leF, e_eqT, e_eqF, e_cl, e_in, e_gd, e_bd, e_ne, e_en, e_nlt, e_ltn, e_len, e_nle, e_nn, e_z0, e_z1, nI_add, pk_mul, e_sub, Nf_app, e_refl, e_reflN, reduceIte, ite_true_, ite_false_, hM, rb, b01_t, he, pX11_round_j89, pX11_round_j90, h3]
              exact ih
/-- the class's row of costs -/
def CR (W : Ob) (g : Nat → Nat) (k : Nat) : Prop := ∀ q, q < k → oA W 6 q = if cn g q then nI (hs g q) else -nI 1
theorem c_costs (hQ : WQ g) (hW : WS N g) (hR : QR V2 g) (hS : SR V g) (l3 : Int32) : ∀ (f k : Nat) {W : Ob}, k ≤ g 1 → g 1 - k < f → CR W g k → okS (pX3_bestRound_l3 V2 V l3 f (nI k) W) (fun W' => CR W' g (g 1))
  | 0, _, _, _, h, _ => by omega
  | f + 1, k, W, h1, h2, hC => by
    have g1 := w_g1 hQ
    rw [pX3_bestRound_l3]
    by_cases hz : k = g 1
    · simp (disch := omega) only [l_0, l_1, l_2, l_3, l_4, l_5, l_6, l_7, l_8, l_9, l_10, l_11, l_12, l_13, l_14, l_15, l_16, l_17, l_18, l_19, l_20, l_21, l_22, l_23, l_24, l_25, l_26, l_27, l_28, l_29, l_30, l_31, l_32, l_33, l_34, l_35, l_36, l_40, l_41, l_48, l_56, l_57, l_59, l_60, l_61, l_62, l_63, l_79, l_81, l_88, l_93, l_97, l_99, l_105, l_117, l_121, l_122, l_125, l_127, l_131, l_179, l_185, l_193, l_197, l_200, l_201, l_210, l_255, l_390, l_400, l_616, l_900, l_940, l_999, l_1000, l_1024, e_ltT, e_ltF, e_leT, e_leF, e_eqT, e_eqF, e_cl, e_in, e_gd, e_bd, e_ne, e_en, e_nlt, e_ltn, e_len, e_nle, e_nn, e_z0, e_z1, nI_add, pk_mul, e_sub, Nf_app, e_refl, e_reflN, reduceIte, ite_true_, ite_false_, q_4 hR]
      exact okS_some (by rw [← hz]; exact hC)
    · have hk : k < g 1 := by omega
      have hL := w_long hW (p := k) (by omega)
      have h3 := c_holds hQ hW hR hS (p := k) (by omega)
      have he := c_ease (V8 := W) hQ hW hR hS hk
      have step : ∀ x, (x = if cn g k then nI (hs g k) else -nI 1) → CR (sA W 6 (va_up (oA W 6) k x)) g (k + 1) := fun x hx q hq => by
        rw [oA_sA, if_pos rfl]
        by_cases e : q = k
        · rw [uv_eq e, e, hx]
        · rw [uv_ne e]; exact hC q (by omega)
      by_cases c0 : 0 < g (125 + k)
      · cases cc : ez g k with
        | none =>
          rw [cc, oN] at he
          have cf : cn g k = false := by unfold cn; rw [cc]; simp
          have ih := c_costs hQ hW hR hS l3 f (k + 1) (by omega) (by omega) (step (-nI 1) (by rw [cf]; rfl))
          simp (disch := omega) only [l_0, l_1, l_2, l_3, l_4, l_5, l_6, l_7, l_8, l_9, l_10, l_11, l_12, l_13, l_14, l_15, l_16, l_17, l_18, l_19, l_20, l_21, l_22, l_23, l_24, l_25, l_26, l_27, l_28, l_29, l_30, l_31, l_32, l_33, l_34, l_35, l_36, l_40, l_41, l_48, l_56, l_57, l_59, l_60, l_61, l_62, l_63, l_79, l_81, l_88, l_93, l_97, l_99, l_105, l_117, l_121, l_122, l_125, l_127, l_131, l_179, l_185, l_193, l_197, l_200, l_201, l_210, l_255, l_390, l_400, l_616, l_900, l_940, l_999, l_1000, l_1024, e_ltT, e_ltF, e_leT, e_leF, e_eqT, e_eqF, e_cl, e_in, e_gd, e_bd, e_ne, e_en, e_nlt, e_ltn, e_len, e_nle, e_nn, e_z0, e_z1, nI_add, pk_mul, e_sub, Nf_app, e_refl, e_reflN, reduceIte, ite_true_, ite_false_, q_4 hR, s_1 hS, he, pX3_bestRound_j38, pX3_bestRound_j39]
          exact ih
        | some n =>
          rw [cc, oN] at he
          obtain ⟨p1, p2⟩ := ez_pos hQ hW (q := k) (by omega) cc
          have cf : cn g k = true := by unfold cn; rw [cc]; simp [c0]
          have ih := c_costs hQ hW hR hS l3 f (k + 1) (by omega) (by omega) (step (nI (hs g k)) (by rw [cf]; rfl))
          simp (disch := omega) only [l_0, l_1, l_2, l_3, l_4, l_5, l_6, l_7, l_8, l_9, l_10, l_11, l_12, l_13, l_14, l_15, l_16, l_17, l_18, l_19, l_20, l_21, l_22, l_23, l_24, l_25, l_26, l_27, l_28, l_29, l_30, l_31, l_32, l_33, l_34, l_35, l_36, l_40, l_41, l_48, l_56, l_57, l_59, l_60, l_61, l_62, l_63, l_79, l_81, l_88, l_93, l_97, l_99, l_105, l_117, l_121, l_122, l_125, l_127, l_131, l_179, l_185, l_193, l_197, l_200, l_201, l_210, l_255, l_390, l_400, l_616, l_900, l_940, l_999, l_1000, l_1024, e_ltT, e_ltF, e_leT, e_leF, e_eqT, e_eqF, e_cl, e_in, e_gd, e_bd, e_ne, e_en, e_nlt, e_ltn, e_len, e_nle, e_nn, e_z0, e_z1, nI_add, pk_mul, e_sub, Nf_app, e_refl, e_reflN, reduceIte, ite_true_, ite_false_, q_4 hR, s_1 hS, he, pX3_bestRound_j38, pX3_bestRound_j39, h3]
          exact ih
      · have cf : cn g k = false := by unfold cn; simp [c0]
        have ih := c_costs hQ hW hR hS l3 f (k + 1) (by omega) (by omega) (step (-nI 1) (by rw [cf]; rfl))
        simp (disch := omega) only [l_0, l_1, l_2, l_3, l_4, l_5, l_6, l_7, l_8, l_9, l_10, l_11, l_12, l_13, l_14, l_15, l_16, l_17, l_18, l_19, l_20, l_21, l_22, l_23, l_24, l_25, l_26, l_27, l_28, l_29, l_30, l_31, l_32, l_33, l_34, l_35, l_36, l_40, l_41, l_48, l_56, l_57, l_59, l_60, l_61, l_62, l_63, l_79, l_81, l_88, l_93, l_97, l_99, l_105, l_117, l_121, l_122, l_125, l_127, l_131, l_179, l_185, l_193, l_197, l_200, l_201, l_210, l_255, l_390, l_400, l_616, l_900, l_940, l_999, l_1000, l_1024, e_ltT, e_ltF, e_leT, e_leF, e_eqT, e_eqF, e_cl, e_in, e_gd, e_bd, e_ne, e_en, e_nlt, e_ltn, e_len, e_nle, e_nn, e_z0, e_z1, nI_add, pk_mul, e_sub, Nf_app, e_refl, e_reflN, reduceIte, ite_true_, ite_false_, q_4 hR, s_1 hS, pX3_bestRound_j38, pX3_bestRound_j39]
        exact ih
theorem c_rc (hQ : WQ g) (hW : WS N g) (hR : QR V2 g) {W : Ob} (hC : CR W g (g 1)) {s : Nat} (hs_ : s < 64) : ∀ (f k : Nat), k ≤ g 1 → g 1 - k < f → oc g s k = true → pX3_roundCost_l5 W V2 (nI s) f (nI (sc g s k)) (nI k) = some (if oc g s (g 1) then nI (sc g s (g 1)) else -nI 1)
  | 0, _, _, h, _ => by omega
  | f + 1, k, h1, h2, ho => by
    have g1 := w_g1 hQ
    rw [pX3_roundCost_l5]
    by_cases hz : k = g 1
    · simp (disch := omega) only [l_0, l_1, l_2, l_3, l_4, l_5, l_6, l_7, l_8, l_9, l_10, l_11, l_12, l_13, l_14, l_15, l_16, l_17, l_18, l_19, l_20, l_21, l_22, l_23, l_24, l_25, l_26, l_27, l_28, l_29, l_30, l_31, l_32, l_33, l_34, l_35, l_36, l_40, l_41, l_48, l_56, l_57, l_59, l_60, l_61, l_62, l_63, l_79, l_81, l_88, l_93, l_97, l_99, l_105, l_117, l_121, l_122, l_125, l_127, l_131, l_179, l_185, l_193, l_197, l_200, l_201, l_210, l_255, l_390, l_400, l_616, l_900, l_940, l_999, l_1000, l_1024, e_ltT, e_ltF, e_leT, e_leF, e_eqT, e_eqF, e_cl, e_in, e_gd, e_bd, e_ne, e_en, e_nlt, e_ltn, e_len, e_nle, e_nn, e_z0, e_z1, nI_add, pk_mul, e_sub, Nf_app, e_refl, e_reflN, reduceIte, ite_true_, ite_false_, q_4 hR]
      rw [← hz, ho]; rfl
    · have hk : k < g 1 := by omega
      have hh := hs_le hQ hW (q := k) (by omega)
      have e1 : sc g s (k + 1) = sc g s k + (if s.testBit k then hs g k else 0) := rfl
      have e2 : oc g s (k + 1) = (oc g s k && (!s.testBit k || cn g k)) := rfl
      have cq := hC k hk
      cases cb : s.testBit k with
      | false =>
        have ih := c_rc hQ hW hR hC hs_ f (k + 1) (by omega) (by omega) (by rw [e2, ho, cb]; rfl)
        rw [e1, cb] at ih
        simp only [Bool.false_eq_true, reduceIte, Nat.add_zero] at ih
        have bf := e_bitF cb (by omega) (by omega)
        simp (disch := omega) only [l_0, l_1, l_2, l_3, l_4, l_5, l_6, l_7, l_8, l_9, l_10, l_11, l_12, l_13, l_14, l_15, l_16, l_17, l_18, l_19, l_20, l_21, l_22, l_23, l_24, l_25, l_26, l_27, l_28, l_29, l_30, l_31, l_32, l_33, l_34, l_35, l_36, l_40, l_41, l_48, l_56, l_57, l_59, l_60, l_61, l_62, l_63, l_79, l_81, l_88, l_93, l_97, l_99, l_105, l_117, l_121, l_122, l_125, l_127, l_131, l_179, l_185, l_193, l_197, l_200, l_201, l_210, l_255, l_390, l_400, l_616, l_900, l_940, l_999, l_1000, l_1024, e_ltT, e_ltF, e_leT, e_leF, e_eqT, e_eqF, e_cl, e_in, e_gd, e_bd, e_ne, e_en, e_nlt, e_ltn, e_len, e_nle, e_nn, e_z0, e_z1, nI_add, pk_mul, e_sub, Nf_app, e_refl, e_reflN, reduceIte, ite_true_, ite_false_, q_4 hR, bf, ih]
      | true =>
        have bt := e_bitT cb (by omega) (by omega)
        cases cc : cn g k with
        | true =>
          have ih := c_rc hQ hW hR hC hs_ f (k + 1) (by omega) (by omega) (by rw [e2, ho, cc, Bool.or_true]; rfl)
          rw [e1, cb] at ih
          simp only [reduceIte] at ih
          rw [cc] at cq
          simp only [reduceIte] at cq
          simp (disch := omega) only [l_0, l_1, l_2, l_3, l_4, l_5, l_6, l_7, l_8, l_9, l_10, l_11, l_12, l_13, l_14, l_15, l_16, l_17, l_18, l_19, l_20, l_21, l_22, l_23, l_24, l_25, l_26, l_27, l_28, l_29, l_30, l_31, l_32, l_33, l_34, l_35, l_36, l_40, l_41, l_48, l_56, l_57, l_59, l_60, l_61, l_62, l_63, l_79, l_81, l_88, l_93, l_97, l_99, l_105, l_117, l_121, l_122, l_125, l_127, l_131, l_179, l_185, l_193, l_197, l_200, l_201, l_210, l_255, l_390, l_400, l_616, l_900, l_940, l_999, l_1000, l_1024, e_ltT, e_ltF, e_leT, e_leF, e_eqT, e_eqF, e_cl, e_in, e_gd, e_bd, e_ne, e_en, e_nlt, e_ltn, e_len, e_nle, e_nn, e_z0, e_z1, nI_add, pk_mul, e_sub, Nf_app, e_refl, e_reflN, reduceIte, ite_true_, ite_false_, q_4 hR, bt, cq, ih]
        | false =>
          have e3 : oc g s (k + 1) = false := by rw [e2, cb, cc]; simp
          rw [cc] at cq
          simp only [Bool.false_eq_true, reduceIte] at cq
          rw [oc_f (by omega : k + 1 ≤ g 1) e3]
          simp (disch := omega) only [l_0, l_1, l_2, l_3, l_4, l_5, l_6, l_7, l_8, l_9, l_10, l_11, l_12, l_13, l_14, l_15, l_16, l_17, l_18, l_19, l_20, l_21, l_22, l_23, l_24, l_25, l_26, l_27, l_28, l_29, l_30, l_31, l_32, l_33, l_34, l_35, l_36, l_40, l_41, l_48, l_56, l_57, l_59, l_60, l_61, l_62, l_63, l_79, l_81, l_88, l_93, l_97, l_99, l_105, l_117, l_121, l_122, l_125, l_127, l_131, l_179, l_185, l_193, l_197, l_200, l_201, l_210, l_255, l_390, l_400, l_616, l_900, l_940, l_999, l_1000, l_1024, e_ltT, e_ltF, e_leT, e_leF, e_eqT, e_eqF, e_cl, e_in, e_gd, e_bd, e_ne, e_en, e_nlt, e_ltn, e_len, e_nle, e_nn, e_z0, e_z1, nI_add, pk_mul, e_sub, Nf_app, e_refl, e_reflN, reduceIte, ite_true_, ite_false_, q_4 hR, bt, cq, Bool.false_eq_true]
def gRd (g : Nat → Nat) (n : Nat) : Nat → Nat → Nat → Nat → Nat
  | 0, _, b, _ => b
  | i + 1, s, b, l => if oc g s (g 1) = true ∧ sc g s (g 1) ≤ n ∧ (pc b < pc s ∨ pc b = pc s ∧ sc g s (g 1) < l) then gRd g n i (s + 1) s (sc g s (g 1)) else gRd g n i (s + 1) b l
theorem gRd_lt (n : Nat) : ∀ (i s b l : Nat), s + i ≤ 64 → b < 64 → gRd g n i s b l < 64
  | 0, _, b, _, _, h => h
  | i + 1, s, b, l, h1, h2 => by
    rw [gRd]
    split
    · exact gRd_lt n i _ _ _ (by omega) (by omega)
    · exact gRd_lt n i _ _ _ (by omega) h2
theorem pow_le64 {k : Nat} (h : k ≤ 6) : 2 ^ k ≤ 64 := Nat.le_trans (Nat.pow_le_pow_right (by decide) h) (by decide)
theorem r_round_l (hQ : WQ g) (hW : WS N g) (hM : oA M 6 = Nf g) {n : Nat} (hn : n < 1000) : ∀ (f i s b l : Nat), s + i = 2 ^ g 1 → i < f → b < 64 → l < 1000 → pX11_round_l25 M (nI n) f (nI b) (nI l) (nI s) = some (nI (gRd g n i s b l))
  | 0, _, _, _, _, _, h, _, _ => by omega
  | f + 1, i, s, b, l, h1, h2, h3, h4 => by
    have g1 := w_g1 hQ
    have p64 := pow_le64 g1
    rw [pX11_round_l25]
    cases i with
    | zero =>
      simp (disch := omega) only [l_0, l_1, l_2, l_3, l_4, l_5, l_6, l_7, l_8, l_9, l_10, l_11, l_12, l_13, l_14, l_15, l_16, l_17, l_18, l_19, l_20, l_21, l_22, l_23, l_24, l_25, l_26, l_27, l_28, l_29, l_30, l_31, l_32, l_33, l_34, l_35, l_36, l_40, l_41, l_48, l_56, l_57, l_59, l_60, l_61, l_62, l_63, l_79, l_81, l_88, l_93, l_97, l_99, l_105, l_117, l_121, l_122, l_125, l_127, l_131, l_179, l_185, l_193, l_197, l_200, l_201, l_210, l_255, l_390, l_400, l_616, l_900, l_940, l_999, l_1000, l_1024, e_ltT, e_ltF, e_leT, e_leF, e_eqT, e_eqF, e_cl, e_in, e_gd, e_bd, e_ne, e_en, e_nlt, e_ltn, e_len, e_nle, e_nn, e_z0, e_z1, nI_add, pk_mul, e_sub, Nf_app, e_refl, e_reflN, reduceIte, ite_true_, ite_false_, hM, e_shl]
      rfl
    | succ i =>
      have c1 := r_rc hQ hW hM (s := s) (by omega) (nI n) (nI b) (nI l) fu 0 (by omega) (by rw [fu_eq]; omega)
      have z1 : sc g s 0 = 0 := rfl
      have z2 : b01 (oc g s 0) = 1 := rfl
      rw [z1, z2] at c1
      have hc := sc_le hQ hW s g1
      have b1 := r_bits (n := s) (by omega)
      have b2 := r_bits h3
      have p1 := pc_le s
      have p2 := pc_le b
      have ihA := r_round_l hQ hW hM hn f i (s + 1) s (sc g s (g 1)) (by omega) (by omega) (by omega) (by omega)
      have ihB := r_round_l hQ hW hM hn f i (s + 1) b l (by omega) (by omega) h3 h4
      rw [gRd]
      cases co : oc g s (g 1) with
      | false =>
        rw [co, b01_f] at c1
        simp only [Bool.false_eq_true, false_and, reduceIte]
        simp (disch := omega) only [l_0, l_1, l_2, l_3, l_4, l_5, l_6, l_7, l_8, l_9, l_10, l_11, l_12, l_13, l_14, l_15, l_16, l_17, l_18, l_19, l_20, l_21, l_22, l_23, l_24, l_25, l_26, l_27, l_28, l_29, l_30, l_31, l_32, l_33, l_34, l_35, l_36, l_40, l_41, l_48, l_56, l_57, l_59, l_60, l_61, l_62, l_63, l_79, l_81, l_88, l_93, l_97, l_99, l_105, l_117, l_121, l_122, l_125, l_127, l_131, l_179, l_185, l_193, l_197, l_200, l_201, l_210, l_255, l_390, l_400, l_616, l_900, l_940, l_999, l_1000, l_1024, e_ltT, e_ltF, e_leT, e_leF, e_eqT, e_eqF, e_cl, e_in, e_gd, e_bd, e_ne, e_en, e_nlt, e_ltn, e_len, e_nle, e_nn, e_z0, e_z1, nI_add, pk_mul, e_sub, Nf_app, e_refl, e_reflN, reduceIte, ite_true_, ite_false_, hM, e_shl, c1, ihB]
      | true =>
        rw [co, b01_t] at c1
        by_cases d1 : sc g s (g 1) ≤ n
        · by_cases d2 : pc s < pc b
          · have dd : ¬ (pc b < pc s ∨ pc b = pc s ∧ sc g s (g 1) < l) := by omega
            simp only [dd, and_false, reduceIte]
            simp (disch := omega) only [l_0, l_1, l_2, l_3, l_4, l_5, l_6, l_7, l_8, l_9, l_10, l_11, l_12, l_13, l_14, l_15, l_16, l_17, l_18, l_19, l_20, l_21, l_22, l_23, l_24, l_25, l_26, l_27, l_28, l_29, l_30, l_31, l_32, l_33, l_34, l_35, l_36, l_40, l_41, l_48, l_56, l_57, l_59, l_60, l_61, l_62, l_63, l_79, l_81, l_88, l_93, l_97, l_99, l_105, l_117, l_121, l_122, l_125, l_127, l_131, l_179, l_185, l_193, l_197, l_200, l_201, l_210, l_255, l_390, l_400, l_616, l_900, l_940, l_999, l_1000, l_1024, e_ltT, e_ltF, e_leT, e_leF, e_eqT, e_eqF, e_cl, e_in, e_gd, e_bd, e_ne, e_en, e_nlt, e_ltn, e_len, e_nle, e_nn, e_z0, e_z1, nI_add, pk_mul, e_sub, Nf_app, e_refl, e_reflN, reduceIte, ite_true_, ite_false_, hM, e_shl, c1, b1, b2, ihB]
          · by_cases d3 : pc s = pc b
            · by_cases d4 : sc g s (g 1) < l
              · have dd : (pc b < pc s ∨ pc b = pc s ∧ sc g s (g 1) < l) := by omega
                simp only [dd, d1, and_self, reduceIte]
                simp (disch := omega) only [l_0, l_1, l_2, l_3, l_4, l_5, l_6, l_7, l_8, l_9, l_10, l_11, l_12, l_13, l_14, l_15, l_16, l_17, l_18, l_19, l_20, l_21, l_22, l_23, l_24, l_25, l_26, l_27, l_28, l_29, l_30, l_31, l_32, l_33, l_34, l_35, l_36, l_40, l_41, l_48, l_56, l_57, l_59, l_60, l_61, l_62, l_63, l_79, l_81, l_88, l_93, l_97, l_99, l_105, l_117, l_121, l_122, l_125, l_127, l_131, l_179, l_185, l_193, l_197, l_200, l_201, l_210, l_255, l_390, l_400, l_616, l_900, l_940, l_999, l_1000, l_1024, e_ltT, e_ltF, e_leT, e_leF, e_eqT, e_eqF, e_cl, e_in, e_gd, e_bd, e_ne, e_en, e_nlt, e_ltn, e_len, e_nle, e_nn, e_z0, e_z1, nI_add, pk_mul, e_sub, Nf_app, e_refl, e_reflN, reduceIte, ite_true_, ite_false_, hM, e_shl, c1, b1, b2, pX11_round_j153, ihA]
              · have dd : ¬ (pc b < pc s ∨ pc b = pc s ∧ sc g s (g 1) < l) := by omega
                simp only [dd, and_false, reduceIte]
                simp (disch := omega) only [l_0, l_1, l_2, l_3, l_4, l_5, l_6, l_7, l_8, l_9, l_10, l_11, l_12, l_13, l_14, l_15, l_16, l_17, l_18, l_19, l_20, l_21, l_22, l_23, l_24, l_25, l_26, l_27, l_28, l_29, l_30, l_31, l_32, l_33, l_34, l_35, l_36, l_40, l_41, l_48, l_56, l_57, l_59, l_60, l_61, l_62, l_63, l_79, l_81, l_88, l_93, l_97, l_99, l_105, l_117, l_121, l_122, l_125, l_127, l_131, l_179, l_185, l_193, l_197, l_200, l_201, l_210, l_255, l_390, l_400, l_616, l_900, l_940, l_999, l_1000, l_1024, e_ltT, e_ltF, e_leT, e_leF, e_eqT, e_eqF, e_cl, e_in, e_gd, e_bd, e_ne, e_en, e_nlt, e_ltn, e_len, e_nle, e_nn, e_z0, e_z1, nI_add, pk_mul, e_sub, Nf_app, e_refl, e_reflN, reduceIte, ite_true_, ite_false_, hM, e_shl, c1, b1, b2, ihB]
            · have dd : (pc b < pc s ∨ pc b = pc s ∧ sc g s (g 1) < l) := by omega
              simp only [dd, d1, and_self, reduceIte]
              simp (disch := omega) only [l_0, l_1, l_2, l_3, l_4, l_5, l_6, l_7, l_8, l_9, l_10, l_11, l_12, l_13, l_14, l_15, l_16, l_17, l_18, l_19, l_20, l_21, l_22, l_23, l_24, l_25, l_26, l_27, l_28, l_29, l_30, l_31, l_32, l_33, l_34, l_35, l_36, l_40, l_41, l_48, l_56, l_57, l_59, l_60, l_61, l_62, l_63, l_79, l_81, l_88, l_93, l_97, l_99, l_105, l_117, l_121, l_122, l_125, l_127, l_131, l_179, l_185, l_193, l_197, l_200, l_201, l_210, l_255, l_390, l_400, l_616, l_900, l_940, l_999, l_1000, l_1024, e_ltT, e_ltF, e_leT, e_leF, e_eqT, e_eqF, e_cl, e_in, e_gd, e_bd, e_ne, e_en, e_nlt, e_ltn, e_len, e_nle, e_nn, e_z0, e_z1, nI_add, pk_mul, e_sub, Nf_app, e_refl, e_reflN, reduceIte, ite_true_, ite_false_, hM, e_shl, c1, b1, b2, pX11_round_j153, ihA]
        · simp only [d1, false_and, and_false, reduceIte]
          simp (disch := omega) only [l_0, l_1, l_2, l_3, l_4, l_5, l_6, l_7, l_8, l_9, l_10, l_11, l_12, l_13, l_14, l_15, l_16, l_17, l_18, l_19, l_20, l_21, l_22, l_23, l_24, l_25, l_26, l_27, l_28, l_29, l_30, l_31, l_32, l_33, l_34, l_35, l_36, l_40, l_41, l_48, l_56, l_57, l_59, l_60, l_61, l_62, l_63, l_79, l_81, l_88, l_93, l_97, l_99, l_105, l_117, l_121, l_122, l_125, l_127, l_131, l_179, l_185, l_193, l_197, l_200, l_201, l_210, l_255, l_390, l_400, l_616, l_900, l_940, l_999, l_1000, l_1024, e_ltT, e_ltF, e_leT, e_leF, e_eqT, e_eqF, e_cl, e_in, e_gd, e_bd, e_ne, e_en, e_nlt, e_ltn, e_len, e_nle, e_nn, e_z0, e_z1, nI_add, pk_mul, e_sub, Nf_app, e_refl, e_reflN, reduceIte, ite_true_, ite_false_, hM, e_shl, c1, ihB]
theorem c_round_l (hQ : WQ g) (hW : WS N g) (hR : QR V2 g) {W : Ob} (hC : CR W g (g 1)) {n : Nat} (hn : n < 1000) : ∀ (f i s b l : Nat), s + i = 2 ^ g 1 → i < f → b < 64 → l < 1000 → pX3_bestRound_l79 W V2 V (nI n) f (nI b) (nI l) (nI s) = some (nI (gRd g n i s b l))
  | 0, _, _, _, _, _, h, _, _ => by omega
  | f + 1, i, s, b, l, h1, h2, h3, h4 => by
    have g1 := w_g1 hQ
    have p64 := pow_le64 g1
    rw [pX3_bestRound_l79]
    cases i with
    | zero =>
      simp (disch := omega) only [l_0, l_1, l_2, l_3, l_4, l_5, l_6, l_7, l_8, l_9, l_10, l_11, l_12, l_13, l_14, l_15, l_16, l_17, l_18, l_19, l_20, l_21, l_22, l_23, l_24, l_25, l_26, l_27, l_28, l_29, l_30, l_31, l_32, l_33, l_34, l_35, l_36, l_40, l_41, l_48, l_56, l_57, l_59, l_60, l_61, l_62, l_63, l_79, l_81, l_88, l_93, l_97, l_99, l_105, l_117, l_121, l_122, l_125, l_127, l_131, l_179, l_185, l_193, l_197, l_200, l_201, l_210, l_255, l_390, l_400, l_616, l_900, l_940, l_999, l_1000, l_1024, e_ltT, e_ltF, e_leT, e_leF, e_eqT, e_eqF, e_cl, e_in, e_gd, e_bd, e_ne, e_en, e_nlt, e_ltn, e_len, e_nle, e_nn, e_z0, e_z1, nI_add, pk_mul, e_sub, Nf_app, e_refl, e_reflN, reduceIte, ite_true_, ite_false_, q_4 hR, e_shl]
      rfl
    | succ i =>
      have c1 : pX3_roundCost W V2 (nI s) = some (if oc g s (g 1) then nI (sc g s (g 1)) else -nI 1) := c_rc hQ hW hR hC (s := s) (by omega) fu 0 (by omega) (by rw [fu_eq]; omega) rfl
      have hc := sc_le hQ hW s g1
      have b1 := c_bits (n := s) (by omega)
      have b2 := c_bits h3
      have p1 := pc_le s
      have p2 := pc_le b
      have ihA := c_round_l hQ hW hR hC hn f i (s + 1) s (sc g s (g 1)) (by omega) (by omega) (by omega) (by omega)
      have ihB := c_round_l hQ hW hR hC hn f i (s + 1) b l (by omega) (by omega) h3 h4
      rw [gRd]
      cases co : oc g s (g 1) with
      | false =>
        rw [co] at c1
        simp only [Bool.false_eq_true, false_and, reduceIte] at c1 ⊢
        simp (disch := omega) only [l_0, l_1, l_2, l_3, l_4, l_5, l_6, l_7, l_8, l_9, l_10, l_11, l_12, l_13, l_14, l_15, l_16, l_17, l_18, l_19, l_20, l_21, l_22, l_23, l_24, l_25, l_26, l_27, l_28, l_29, l_30, l_31, l_32, l_33, l_34, l_35, l_36, l_40, l_41, l_48, l_56, l_57, l_59, l_60, l_61, l_62, l_63, l_79, l_81, l_88, l_93, l_97, l_99, l_105, l_117, l_121, l_122, l_125, l_127, l_131, l_179, l_185, l_193, l_197, l_200, l_201, l_210, l_255, l_390, l_400, l_616, l_900, l_940, l_999, l_1000, l_1024, e_ltT, e_ltF, e_leT, e_leF, e_eqT, e_eqF, e_cl, e_in, e_gd, e_bd, e_ne, e_en, e_nlt, e_ltn, e_len, e_nle, e_nn, e_z0, e_z1, nI_add, pk_mul, e_sub, Nf_app, e_refl, e_reflN, reduceIte, ite_true_, ite_false_, q_4 hR, e_shl, c1, b1, b2, ihB]
      | true =>
        rw [co] at c1
        simp only [reduceIte] at c1
        by_cases d1 : sc g s (g 1) ≤ n
        · by_cases d2 : pc s < pc b
          · have dd : ¬ (pc b < pc s ∨ pc b = pc s ∧ sc g s (g 1) < l) := by omega
            simp only [dd, and_false, reduceIte]
            have x1 : (nI 0 < nI (pc s) - nI (pc b)) = False := eq_false (by
              rw [Int32.lt_iff_toInt_lt, pk_sub_toInt (by omega) (by omega)]
              show ¬ (0 : Int) < _
              omega)
            have x2 : (nI (pc s) - nI (pc b) = nI 0) = False := eq_false (fun e => by
              have := congrArg Int32.toInt e
              rw [pk_sub_toInt (by omega) (by omega)] at this
              have : (pc s : Int) - pc b = 0 := this
              omega)
            simp (disch := omega) only [l_0, l_1, l_2, l_3, l_4, l_5, l_6, l_7, l_8, l_9, l_10, l_11, l_12, l_13, l_14, l_15, l_16, l_17, l_18, l_19, l_20, l_21, l_22, l_23, l_24, l_25, l_26, l_27, l_28, l_29, l_30, l_31, l_32, l_33, l_34, l_35, l_36, l_40, l_41, l_48, l_56, l_57, l_59, l_60, l_61, l_62, l_63, l_79, l_81, l_88, l_93, l_97, l_99, l_105, l_117, l_121, l_122, l_125, l_127, l_131, l_179, l_185, l_193, l_197, l_200, l_201, l_210, l_255, l_390, l_400, l_616, l_900, l_940, l_999, l_1000, l_1024, e_ltT, e_ltF, e_leT, e_leF, e_eqT, e_eqF, e_cl, e_in, e_gd, e_bd, e_ne, e_en, e_nlt, e_ltn, e_len, e_nle, e_nn, e_z0, e_z1, nI_add, pk_mul, e_sub, Nf_app, e_refl, e_reflN, reduceIte, ite_true_, ite_false_, q_4 hR, e_shl, c1, b1, b2, x1, x2, ihB]
          · by_cases d3 : pc s = pc b
            · have x3 : pc s - pc b = 0 := by omega
              by_cases d4 : sc g s (g 1) < l
              · have dd : (pc b < pc s ∨ pc b = pc s ∧ sc g s (g 1) < l) := by omega
                simp only [dd, d1, and_self, reduceIte]
                simp (disch := omega) only [l_0, l_1, l_2, l_3, l_4, l_5, l_6, l_7, l_8, l_9, l_10, l_11, l_12, l_13, l_14, l_15, l_16, l_17, l_18, l_19, l_20, l_21, l_22, l_23, l_24, l_25, l_26, l_27, l_28, l_29, l_30, l_31, l_32, l_33, l_34, l_35, l_36, l_40, l_41, l_48, l_56, l_57, l_59, l_60, l_61, l_62, l_63, l_79, l_81, l_88, l_93, l_97, l_99, l_105, l_117, l_121, l_122, l_125, l_127, l_131, l_179, l_185, l_193, l_197, l_200, l_201, l_210, l_255, l_390, l_400, l_616, l_900, l_940, l_999, l_1000, l_1024, e_ltT, e_ltF, e_leT, e_leF, e_eqT, e_eqF, e_cl, e_in, e_gd, e_bd, e_ne, e_en, e_nlt, e_ltn, e_len, e_nle, e_nn, e_z0, e_z1, nI_add, pk_mul, e_sub, Nf_app, e_refl, e_reflN, reduceIte, ite_true_, ite_false_, q_4 hR, e_shl, c1, b1, b2, pX3_bestRound_j141, ihA]
              · have dd : ¬ (pc b < pc s ∨ pc b = pc s ∧ sc g s (g 1) < l) := by omega
                simp only [dd, and_false, reduceIte]
                simp (disch := omega) only [l_0, l_1, l_2, l_3, l_4, l_5, l_6, l_7, l_8, l_9, l_10, l_11, l_12, l_13, l_14, l_15, l_16, l_17, l_18, l_19, l_20, l_21, l_22, l_23, l_24, l_25, l_26, l_27, l_28, l_29, l_30, l_31, l_32, l_33, l_34, l_35, l_36, l_40, l_41, l_48, l_56, l_57, l_59, l_60, l_61, l_62, l_63, l_79, l_81, l_88, l_93, l_97, l_99, l_105, l_117, l_121, l_122, l_125, l_127, l_131, l_179, l_185, l_193, l_197, l_200, l_201, l_210, l_255, l_390, l_400, l_616, l_900, l_940, l_999, l_1000, l_1024, e_ltT, e_ltF, e_leT, e_leF, e_eqT, e_eqF, e_cl, e_in, e_gd, e_bd, e_ne, e_en, e_nlt, e_ltn, e_len, e_nle, e_nn, e_z0, e_z1, nI_add, pk_mul, e_sub, Nf_app, e_refl, e_reflN, reduceIte, ite_true_, ite_false_, q_4 hR, e_shl, c1, b1, b2, ihB]
            · have dd : (pc b < pc s ∨ pc b = pc s ∧ sc g s (g 1) < l) := by omega
              simp only [dd, d1, and_self, reduceIte]
              simp (disch := omega) only [l_0, l_1, l_2, l_3, l_4, l_5, l_6, l_7, l_8, l_9, l_10, l_11, l_12, l_13, l_14, l_15, l_16, l_17, l_18, l_19, l_20, l_21, l_22, l_23, l_24, l_25, l_26, l_27, l_28, l_29, l_30, l_31, l_32, l_33, l_34, l_35, l_36, l_40, l_41, l_48, l_56, l_57, l_59, l_60, l_61, l_62, l_63, l_79, l_81, l_88, l_93, l_97, l_99, l_105, l_117, l_121, l_122, l_125, l_127, l_131, l_179, l_185, l_193, l_197, l_200, l_201, l_210, l_255, l_390, l_400, l_616, l_900, l_940, l_999, l_1000, l_1024, e_ltT, e_ltF, e_leT, e_leF, e_eqT, e_eqF, e_cl, e_in, e_gd, e_bd, e_ne, e_en, e_nlt, e_ltn, e_len, e_nle, e_nn, e_z0, e_z1, nI_add, pk_mul, e_sub, Nf_app, e_refl, e_reflN, reduceIte, ite_true_, ite_false_, q_4 hR, e_shl, c1, b1, b2, pX3_bestRound_j141, ihA]
        · simp only [d1, false_and, and_false, reduceIte]
          simp (disch := omega) only [l_0, l_1, l_2, l_3, l_4, l_5, l_6, l_7, l_8, l_9, l_10, l_11, l_12, l_13, l_14, l_15, l_16, l_17, l_18, l_19, l_20, l_21, l_22, l_23, l_24, l_25, l_26, l_27, l_28, l_29, l_30, l_31, l_32, l_33, l_34, l_35, l_36, l_40, l_41, l_48, l_56, l_57, l_59, l_60, l_61, l_62, l_63, l_79, l_81, l_88, l_93, l_97, l_99, l_105, l_117, l_121, l_122, l_125, l_127, l_131, l_179, l_185, l_193, l_197, l_200, l_201, l_210, l_255, l_390, l_400, l_616, l_900, l_940, l_999, l_1000, l_1024, e_ltT, e_ltF, e_leT, e_leF, e_eqT, e_eqF, e_cl, e_in, e_gd, e_bd, e_ne, e_en, e_nlt, e_ltn, e_len, e_nle, e_nn, e_z0, e_z1, nI_add, pk_mul, e_sub, Nf_app, e_refl, e_reflN, reduceIte, ite_true_, ite_false_, q_4 hR, e_shl, c1, b1, b2, ihB]
end
