/-! strokes -/
def wy (g : Nat → Nat) (q n : Nat) : Nat := if g (125 + q) = 0 then 1 else if n < kh g q (g (125 + q)) then 2 else if g 4 < n then 3 else if g (21 + q) < g (179 + q) + n then 4 else 0
def gL (q n : Nat) : Nat → Nat → (Nat → Nat) → (Nat → Nat)
  | 0, _, g => g
  | i + 1, o, g => if 0 < g (125 + q) ∧ o + kh g q (g (125 + q)) ≤ n then gL q n i (o + kh g q (g (125 + q))) (gD g q (gI g q)) else g
def gP (g : Nat → Nat) (q n : Nat) : Nat → Nat := va_up (va_up g (179 + q) (g (179 + q) + n)) 122 (g 122 + 1)
def gW (g : Nat → Nat) (q n : Nat) : Nat → Nat := gP (gL q n 8 0 g) q n
section
variable {N : Nat}
theorem r_why {g : Nat → Nat} {M : Ob} (hQ : WQ g) (hW : WS N g) (hM : oA M 6 = Nf g) {q n : Nat} (hq : q < g 1) (hn : n < 1000) : pX11_whyStroke M (nI q) (nI n) = some (nI (wy g q n)) := by
  have h1 := w_g1 hQ
  have hq6 : q < 6 := by omega
  have hL := w_long hW hq6
  have h4 := w_g4 hQ
  have hb_ := w_bear hQ hq
  have hp := hW.2.2.1 q hq
  unfold pX11_whyStroke wy
  by_cases c0 : g (125 + q) = 0
  · rw [if_pos c0]; simp (disch := omega) only [l_0, l_1, l_2, l_3, l_4, l_5, l_6, l_7, l_8, l_9, l_10, l_11, l_12, l_13, l_14, l_15, l_16, l_17, l_18, l_19, l_20, l_21, l_22, l_23, l_24, l_25, l_26, l_27, l_28, l_29, l_30, l_31, l_32, l_33, l_34, l_35, l_36, l_40, l_41, l_48, l_56, l_57, l_59, l_60, l_61, l_62, l_63, l_79, l_81, l_88, l_93, l_97, l_99, l_105, l_117, l_121, l_122, l_125, l_127, l_131, l_179, l_185, l_193, l_197, l_200, l_201, l_210, l_255, l_390, l_400, l_616, l_900, l_940, l_999, l_1000, l_1024, e_ltT, e_ltF, e_leT, e_leF, e_eqT, e_eqF, e_cl, e_in, e_gd, e_bd, e_ne, e_en, e_nlt, e_ltn, e_len, e_nle, e_nn, e_z0, e_z1, nI_add, pk_mul, e_sub, Nf_app, e_refl, e_reflN, reduceIte, ite_true_, ite_false_, hM]
  · have k1 := r_kh hQ hW hM hq6 (k := 0) (by omega)
    rw [Nat.sub_zero] at k1
    have k2 := kh_le hQ hW hq6 (top := g (125 + q)) (Nat.le_refl _)
    rw [if_neg c0]
    by_cases c1 : n < kh g q (g (125 + q))
    · rw [if_pos c1]; simp (disch := omega) only [l_0, l_1, l_2, l_3, l_4, l_5, l_6, l_7, l_8, l_9, l_10, l_11, l_12, l_13, l_14, l_15, l_16, l_17, l_18, l_19, l_20, l_21, l_22, l_23, l_24, l_25, l_26, l_27, l_28, l_29, l_30, l_31, l_32, l_33, l_34, l_35, l_36, l_40, l_41, l_48, l_56, l_57, l_59, l_60, l_61, l_62, l_63, l_79, l_81, l_88, l_93, l_97, l_99, l_105, l_117, l_121, l_122, l_125, l_127, l_131, l_179, l_185, l_193, l_197, l_200, l_201, l_210, l_255, l_390, l_400, l_616, l_900, l_940, l_999, l_1000, l_1024, e_ltT, e_ltF, e_leT, e_leF, e_eqT, e_eqF, e_cl, e_in, e_gd, e_bd, e_ne, e_en, e_nlt, e_ltn, e_len, e_nle, e_nn, e_z0, e_z1, nI_add, pk_mul, e_sub, Nf_app, e_refl, e_reflN, reduceIte, ite_true_, ite_false_, hM, k1]
    · rw [if_neg c1]
      by_cases c2 : g 4 < n
      · rw [if_pos c2]; simp (disch := omega) only [l_0, l_1, l_2, l_3, l_4, l_5, l_6, l_7, l_8, l_9, l_10, l_11, l_12, l_13, l_14, l_15, l_16, l_17, l_18, l_19, l_20, l_21, l_22, l_23, l_24, l_25, l_26, l_27, l_28, l_29, l_30, l_31, l_32, l_33, l_34, l_35, l_36, l_40, l_41, l_48, l_56, l_57, l_59, l_60, l_61, l_62, l_63, l_79, l_81, l_88, l_93, l_97, l_99, l_105, l_117, l_121, l_122, l_125, l_127, l_131, l_179, l_185, l_193, l_197, l_200, l_201, l_210, l_255, l_390, l_400, l_616, l_900, l_940, l_999, l_1000, l_1024, e_ltT, e_ltF, e_leT, e_leF, e_eqT, e_eqF, e_cl, e_in, e_gd, e_bd, e_ne, e_en, e_nlt, e_ltn, e_len, e_nle, e_nn, e_z0, e_z1, nI_add, pk_mul, e_sub, Nf_app, e_refl, e_reflN, reduceIte, ite_true_, ite_false_, hM, k1]
      · rw [if_neg c2]
        by_cases c3 : g (21 + q) < g (179 + q) + n
        · rw [if_pos c3]; simp (disch := omega) only [l_0, l_1, l_2, l_3, l_4, l_5, l_6, l_7, l_8, l_9, l_10, l_11, l_12, l_13, l_14, l_15, l_16, l_17, l_18, l_19, l_20, l_21, l_22, l_23, l_24, l_25, l_26, l_27, l_28, l_29, l_30, l_31, l_32, l_33, l_34, l_35, l_36, l_40, l_41, l_48, l_56, l_57, l_59, l_60, l_61, l_62, l_63, l_79, l_81, l_88, l_93, l_97, l_99, l_105, l_117, l_121, l_122, l_125, l_127, l_131, l_179, l_185, l_193, l_197, l_200, l_201, l_210, l_255, l_390, l_400, l_616, l_900, l_940, l_999, l_1000, l_1024, e_ltT, e_ltF, e_leT, e_leF, e_eqT, e_eqF, e_cl, e_in, e_gd, e_bd, e_ne, e_en, e_nlt, e_ltn, e_len, e_nle, e_nn, e_z0, e_z1, nI_add, pk_mul, e_sub, Nf_app, e_refl, e_reflN, reduceIte, ite_true_, ite_false_, hM, k1]
        · rw [if_neg c3]; simp (disch := omega) only [l_0, l_1, l_2, l_3, l_4, l_5, l_6, l_7, l_8, l_9, l_10, l_11, l_12, l_13, l_14, l_15, l_16, l_17, l_18, l_19, l_20, l_21, l_22, l_23, l_24, l_25, l_26, l_27, l_28, l_29, l_30, l_31, l_32, l_33, l_34, l_35, l_36, l_40, l_41, l_48, l_56, l_57, l_59, l_60, l_61, l_62, l_63, l_79, l_81, l_88, l_93, l_97, l_99, l_105, l_117, l_121, l_122, l_125, l_127, l_131, l_179, l_185, l_193, l_197, l_200, l_201, l_210, l_255, l_390, l_400, l_616, l_900, l_940, l_999, l_1000, l_1024, e_ltT, e_ltF, e_leT, e_leF, e_eqT, e_eqF, e_cl, e_in, e_gd, e_bd, e_ne, e_en, e_nlt, e_ltn, e_len, e_nle, e_nn, e_z0, e_z1, nI_add, pk_mul, e_sub, Nf_app, e_refl, e_reflN, reduceIte, ite_true_, ite_false_, hM, k1]
theorem c_why {g : Nat → Nat} {V V2 : Ob} (hQ : WQ g) (hW : WS N g) (hR : QR V2 g) (hS : SR V g) {q n : Nat} (hq : q < g 1) (hn : n < 1000) : pX6_whyNoStroke V V2 (nI q) (nI n) = some (nI (wy g q n)) := by
  have h1 := w_g1 hQ
  have hq6 : q < 6 := by omega
  have hL := w_long hW hq6
  have h4 := w_g4 hQ
  have hb_ := w_bear hQ hq
  have hp := hW.2.2.1 q hq
  unfold pX6_whyNoStroke wy
  by_cases c0 : g (125 + q) = 0
  · rw [if_pos c0]; simp (disch := omega) only [l_0, l_1, l_2, l_3, l_4, l_5, l_6, l_7, l_8, l_9, l_10, l_11, l_12, l_13, l_14, l_15, l_16, l_17, l_18, l_19, l_20, l_21, l_22, l_23, l_24, l_25, l_26, l_27, l_28, l_29, l_30, l_31, l_32, l_33, l_34, l_35, l_36, l_40, l_41, l_48, l_56, l_57, l_59, l_60, l_61, l_62, l_63, l_79, l_81, l_88, l_93, l_97, l_99, l_105, l_117, l_121, l_122, l_125, l_127, l_131, l_179, l_185, l_193, l_197, l_200, l_201, l_210, l_255, l_390, l_400, l_616, l_900, l_940, l_999, l_1000, l_1024, e_ltT, e_ltF, e_leT, e_leF, e_eqT, e_eqF, e_cl, e_in, e_gd, e_bd, e_ne, e_en, e_nlt, e_ltn, e_len, e_nle, e_nn, e_z0, e_z1, nI_add, pk_mul, e_sub, Nf_app, e_refl, e_reflN, reduceIte, ite_true_, ite_false_, s_1 hS]
  · have k1 := c_oh hQ hW hR hS hq6
    have k2 := kh_le hQ hW hq6 (top := g (125 + q)) (Nat.le_refl _)
    rw [if_neg c0]
    by_cases c1 : n < kh g q (g (125 + q))
    · rw [if_pos c1]; simp (disch := omega) only [l_0, l_1, l_2, l_3, l_4, l_5, l_6, l_7, l_8, l_9, l_10, l_11, l_12, l_13, l_14, l_15, l_16, l_17, l_18, l_19, l_20, l_21, l_22, l_23, l_24, l_25, l_26, l_27, l_28, l_29, l_30, l_31, l_32, l_33, l_34, l_35, l_36, l_40, l_41, l_48, l_56, l_57, l_59, l_60, l_61, l_62, l_63, l_79, l_81, l_88, l_93, l_97, l_99, l_105, l_117, l_121, l_122, l_125, l_127, l_131, l_179, l_185, l_193, l_197, l_200, l_201, l_210, l_255, l_390, l_400, l_616, l_900, l_940, l_999, l_1000, l_1024, e_ltT, e_ltF, e_leT, e_leF, e_eqT, e_eqF, e_cl, e_in, e_gd, e_bd, e_ne, e_en, e_nlt, e_ltn, e_len, e_nle, e_nn, e_z0, e_z1, nI_add, pk_mul, e_sub, Nf_app, e_refl, e_reflN, reduceIte, ite_true_, ite_false_, s_1 hS, k1]
    · rw [if_neg c1]
      by_cases c2 : g 4 < n
      · rw [if_pos c2]; simp (disch := omega) only [l_0, l_1, l_2, l_3, l_4, l_5, l_6, l_7, l_8, l_9, l_10, l_11, l_12, l_13, l_14, l_15, l_16, l_17, l_18, l_19, l_20, l_21, l_22, l_23, l_24, l_25, l_26, l_27, l_28, l_29, l_30, l_31, l_32, l_33, l_34, l_35, l_36, l_40, l_41, l_48, l_56, l_57, l_59, l_60, l_61, l_62, l_63, l_79, l_81, l_88, l_93, l_97, l_99, l_105, l_117, l_121, l_122, l_125, l_127, l_131, l_179, l_185, l_193, l_197, l_200, l_201, l_210, l_255, l_390, l_400, l_616, l_900, l_940, l_999, l_1000, l_1024, e_ltT, e_ltF, e_leT, e_leF, e_eqT, e_eqF, e_cl, e_in, e_gd, e_bd, e_ne, e_en, e_nlt, e_ltn, e_len, e_nle, e_nn, e_z0, e_z1, nI_add, pk_mul, e_sub, Nf_app, e_refl, e_reflN, reduceIte, ite_true_, ite_false_, s_1 hS, k1, q_14 hR]
      · rw [if_neg c2]
        by_cases c3 : g (21 + q) < g (179 + q) + n
        · rw [if_pos c3]; simp (disch := omega) only [l_0, l_1, l_2, l_3, l_4, l_5, l_6, l_7, l_8, l_9, l_10, l_11, l_12, l_13, l_14, l_15, l_16, l_17, l_18, l_19, l_20, l_21, l_22, l_23, l_24, l_25, l_26, l_27, l_28, l_29, l_30, l_31, l_32, l_33, l_34, l_35, l_36, l_40, l_41, l_48, l_56, l_57, l_59, l_60, l_61, l_62, l_63, l_79, l_81, l_88, l_93, l_97, l_99, l_105, l_117, l_121, l_122, l_125, l_127, l_131, l_179, l_185, l_193, l_197, l_200, l_201, l_210, l_255, l_390, l_400, l_616, l_900, l_940, l_999, l_1000, l_1024, e_ltT, e_ltF, e_leT, e_leF, e_eqT, e_eqF, e_cl, e_in, e_gd, e_bd, e_ne, e_en, e_nlt, e_ltn, e_len, e_nle, e_nn, e_z0, e_z1, nI_add, pk_mul, e_sub, Nf_app, e_refl, e_reflN, reduceIte, ite_true_, ite_false_, s_1 hS, k1, q_14 hR, s_2 hS, q_6 hR]
        · rw [if_neg c3]; simp (disch := omega) only [l_0, l_1, l_2, l_3, l_4, l_5, l_6, l_7, l_8, l_9, l_10, l_11, l_12, l_13, l_14, l_15, l_16, l_17, l_18, l_19, l_20, l_21, l_22, l_23, l_24, l_25, l_26, l_27, l_28, l_29, l_30, l_31, l_32, l_33, l_34, l_35, l_36, l_40, l_41, l_48, l_56, l_57, l_59, l_60, l_61, l_62, l_63, l_79, l_81, l_88, l_93, l_97, l_99, l_105, l_117, l_121, l_122, l_125, l_127, l_131, l_179, l_185, l_193, l_197, l_200, l_201, l_210, l_255, l_390, l_400, l_616, l_900, l_940, l_999, l_1000, l_1024, e_ltT, e_ltF, e_leT, e_leF, e_eqT, e_eqF, e_cl, e_in, e_gd, e_bd, e_ne, e_en, e_nlt, e_ltn, e_len, e_nle, e_nn, e_z0, e_z1, nI_add, pk_mul, e_sub, Nf_app, e_refl, e_reflN, reduceIte, ite_true_, ite_false_, s_1 hS, k1, q_14 hR, s_2 hS, q_6 hR]
theorem gL_ok {q n : Nat} (hq : q < 6) : ∀ (i o : Nat) {g : Nat → Nat}, WQ g → WS N g → WS N (gL q n i o g) ∧ Sm g (gL q n i o g) ∧ (∀ k, 179 ≤ k → k < 185 → gL q n i o g k = g k)
  | 0, _, g, _, hW => ⟨hW, Sm.refl _, fun _ _ _ => rfl⟩
  | i + 1, o, g, hQ, hW => by
    rw [gL]
    split
    · next h =>
      have h0 := w_g0 hQ
      have ht := gT_lt hW hq h.1
      have e := gD_sm (g := g) (i := gI g q) hq (by omega)
      obtain ⟨a, b, c⟩ := gL_ok hq i (o + kh g q (g (125 + q))) (WQ.of e hQ) (ws_draw hQ hW hq h.1 (gI_le hW q).2)
      exact ⟨a, e.trans b, fun k h1 h2 => (c k h1 h2).trans ((gD_at hq (by omega)).1 k (by omega))⟩
    · exact ⟨hW, Sm.refl _, fun _ _ _ => rfl⟩
theorem gD_len {g : Nat → Nat} (hQ : WQ g) (hW : WS N g) {q i : Nat} (hq : q < 6) (hl : 0 < g (125 + q)) : gD g q i (125 + q) < g (125 + q) := by
  have h0 := w_g0 hQ
  have ht := gT_lt hW hq hl
  rw [(gD_at hq (by omega)).2.1 q hq, if_pos rfl]
  have := kn_pos g q hl
  omega
theorem r_strokes_l {q n : Nat} (hq : q < 6) (hn : n < 1000) : ∀ (i o f : Nat) {g : Nat → Nat} {M : Ob}, WQ g → WS N g → oA M 6 = Nf g → g (125 + q) ≤ i → i < f → o ≤ n → pX11_strokes_l2 (nI q) (nI n) f (nI o) M = some (sA M 6 (Nf (gL q n i o g)))
  | i, o, 0, g, M, _, _, _, _, h, _ => by omega
  | i, o, f + 1, g, M, hQ, hW, hM, hi, hf, ho => by
    have hL := w_long hW hq
    rw [pX11_strokes_l2]
    by_cases c0 : g (125 + q) = 0
    · have e : gL q n i o g = g := by
        cases i with
        | zero => rfl
        | succ i => rw [gL, if_neg (by omega)]
      simp (disch := omega) only [l_0, l_1, l_2, l_3, l_4, l_5, l_6, l_7, l_8, l_9, l_10, l_11, l_12, l_13, l_14, l_15, l_16, l_17, l_18, l_19, l_20, l_21, l_22, l_23, l_24, l_25, l_26, l_27, l_28, l_29, l_30, l_31, l_32, l_33, l_34, l_35, l_36, l_40, l_41, l_48, l_56, l_57, l_59, l_60, l_61, l_62, l_63, l_79, l_81, l_88, l_93, l_97, l_99, l_105, l_117, l_121, l_122, l_125, l_127, l_131, l_179, l_185, l_193, l_197, l_200, l_201, l_210, l_255, l_390, l_400, l_616, l_900, l_940, l_999, l_1000, l_1024, e_ltT, e_ltF, e_leT, e_leF, e_eqT, e_eqF, e_cl, e_in, e_gd, e_bd, e_ne, e_en, e_nlt, e_ltn, e_len, e_nle, e_nn, e_z0, e_z1, nI_add, pk_mul, e_sub, Nf_app, e_refl, e_reflN, reduceIte, ite_true_, ite_false_, hM]
      rw [e, ← hM, sA_self]
    · obtain ⟨j, rfl⟩ : ∃ j, i = j + 1 := ⟨i - 1, by omega⟩
      have k1 := r_kh hQ hW hM hq (k := 0) (by omega)
      rw [Nat.sub_zero] at k1
      have k2 := kh_le hQ hW hq (top := g (125 + q)) (Nat.le_refl _)
      by_cases c1 : o + kh g q (g (125 + q)) ≤ n
      · have hl : 0 < g (125 + q) := by omega
        have h0 := w_g0 hQ
        have ht := gT_lt hW hq hl
        have e := gD_sm (g := g) (i := gI g q) hq (by omega)
        have d := gD_len hQ hW (i := gI g q) hq hl
        have ih := r_strokes_l hq hn j (o + kh g q (g (125 + q))) f (g := gD g q (gI g q)) (M := sA M 6 (Nf (gD g q (gI g q)))) (WQ.of e hQ) (ws_draw hQ hW hq hl (gI_le hW q).2) rfl (by omega) (by omega) c1
        rw [sA_sA] at ih
        rw [show gL q n (j + 1) o g = gL q n j (o + kh g q (g (125 + q))) (gD g q (gI g q)) by rw [gL, if_pos ⟨hl, c1⟩]]
        simp (disch := omega) only [l_0, l_1, l_2, l_3, l_4, l_5, l_6, l_7, l_8, l_9, l_10, l_11, l_12, l_13, l_14, l_15, l_16, l_17, l_18, l_19, l_20, l_21, l_22, l_23, l_24, l_25, l_26, l_27, l_28, l_29, l_30, l_31, l_32, l_33, l_34, l_35, l_36, l_40, l_41, l_48, l_56, l_57, l_59, l_60, l_61, l_62, l_63, l_79, l_81, l_88, l_93, l_97, l_99, l_105, l_117, l_121, l_122, l_125, l_127, l_131, l_179, l_185, l_193, l_197, l_200, l_201, l_210, l_255, l_390, l_400, l_616, l_900, l_940, l_999, l_1000, l_1024, e_ltT, e_ltF, e_leT, e_leF, e_eqT, e_eqF, e_cl, e_in, e_gd, e_bd, e_ne, e_en, e_nlt, e_ltn, e_len, e_nle, e_nn, e_z0, e_z1, nI_add, pk_mul, e_sub, Nf_app, e_refl, e_reflN, reduceIte, ite_true_, ite_false_, hM, k1, r_drawB hQ hW hM hq hl, ih]
      · rw [show gL q n (j + 1) o g = g by rw [gL, if_neg (by omega)]]
        simp (disch := omega) only [l_0, l_1, l_2, l_3, l_4, l_5, l_6, l_7, l_8, l_9, l_10, l_11, l_12, l_13, l_14, l_15, l_16, l_17, l_18, l_19, l_20, l_21, l_22, l_23, l_24, l_25, l_26, l_27, l_28, l_29, l_30, l_31, l_32, l_33, l_34, l_35, l_36, l_40, l_41, l_48, l_56, l_57, l_59, l_60, l_61, l_62, l_63, l_79, l_81, l_88, l_93, l_97, l_99, l_105, l_117, l_121, l_122, l_125, l_127, l_131, l_179, l_185, l_193, l_197, l_200, l_201, l_210, l_255, l_390, l_400, l_616, l_900, l_940, l_999, l_1000, l_1024, e_ltT, e_ltF, e_leT, e_leF, e_eqT, e_eqF, e_cl, e_in, e_gd, e_bd, e_ne, e_en, e_nlt, e_ltn, e_len, e_nle, e_nn, e_z0, e_z1, nI_add, pk_mul, e_sub, Nf_app, e_refl, e_reflN, reduceIte, ite_true_, ite_false_, hM, k1]
        rw [← hM, sA_self]
theorem r_stroke {g : Nat → Nat} {M : Ob} (hQ : WQ g) (hW : WS N g) (hM : oA M 6 = Nf g) {q n : Nat} (hq : q < 6) (hn : n < 1000) : pX11_strokes M (nI q) (nI n) = some (sA M 6 (Nf (gW g q n))) := by
  have hL := w_long hW hq
  have h := r_strokes_l hq hn 8 0 fu hQ hW hM hL (by rw [fu_eq]; omega) (by omega)
  unfold pX11_strokes
  simp (disch := omega) only [l_0, l_1, l_2, l_3, l_4, l_5, l_6, l_7, l_8, l_9, l_10, l_11, l_12, l_13, l_14, l_15, l_16, l_17, l_18, l_19, l_20, l_21, l_22, l_23, l_24, l_25, l_26, l_27, l_28, l_29, l_30, l_31, l_32, l_33, l_34, l_35, l_36, l_40, l_41, l_48, l_56, l_57, l_59, l_60, l_61, l_62, l_63, l_79, l_81, l_88, l_93, l_97, l_99, l_105, l_117, l_121, l_122, l_125, l_127, l_131, l_179, l_185, l_193, l_197, l_200, l_201, l_210, l_255, l_390, l_400, l_616, l_900, l_940, l_999, l_1000, l_1024, e_ltT, e_ltF, e_leT, e_leF, e_eqT, e_eqF, e_cl, e_in, e_gd, e_bd, e_ne, e_en, e_nlt, e_ltn, e_len, e_nle, e_nn, e_z0, e_z1, nI_add, pk_mul, e_sub, Nf_app, e_refl, e_reflN, reduceIte, ite_true_, ite_false_, oI_sI, oI_sL, oI_sW, oI_sA, oI_sJ, oI_sX, oL_sI, oL_sL, oL_sW, oL_sA, oL_sJ, oL_sX, oW_sI, oW_sL, oW_sW, oW_sA, oW_sJ, oW_sX, oA_sI, oA_sL, oA_sW, oA_sA, oA_sJ, oA_sX, oJ_sI, oJ_sL, oJ_sW, oJ_sA, oJ_sJ, oJ_sX, oX_sI, oX_sL, oX_sW, oX_sA, oX_sJ, oX_sX, Nat.reduceEqDiff, n10, n01, uv_eq, uv_ne, up_Nf, sA_sA, h]
  rfl
theorem c_comb_l {q n : Nat} (hq : q < 6) (hn : n < 1000) {V2 : Ob} : ∀ (i o f : Nat) {g : Nat → Nat} {V : Ob}, WQ g → WS N g → QR V2 g → SR V g → g (125 + q) ≤ i → i ≤ 8 → i < f → o ≤ n → okS (pX6_comb_l6 V2 (nI q) (nI n) f (nI (n - o)) (nI (8 - i)) V) (fun V' => SR V' (gL q n i o g) ∧ oI V' 12 = oI V 12)
  | i, o, 0, g, V, _, _, _, _, _, _, h, _ => by omega
  | i, o, f + 1, g, V, hQ, hW, hR, hS, hi, hi8, hf, ho => by
    have hL := w_long hW hq
    rw [pX6_comb_l6]
    by_cases c0 : g (125 + q) = 0
    · have e : gL q n i o g = g := by
        cases i with
        | zero => rfl
        | succ i => rw [gL, if_neg (by omega)]
      by_cases c8 : i = 0
      · subst c8
        simp (disch := omega) only [l_0, l_1, l_2, l_3, l_4, l_5, l_6, l_7, l_8, l_9, l_10, l_11, l_12, l_13, l_14, l_15, l_16, l_17, l_18, l_19, l_20, l_21, l_22, l_23, l_24, l_25, l_26, l_27, l_28, l_29, l_30, l_31, l_32, l_33, l_34, l_35, l_36, l_40, l_41, l_48, l_56, l_57, l_59, l_60, l_61, l_62, l_63, l_79, l_81, l_88, l_93, l_97, l_99, l_105, l_117, l_121, l_122, l_125, l_127, l_131, l_179, l_185, l_193, l_197, l_200, l_201, l_210, l_255, l_390, l_400, l_616, l_900, l_940, l_999, l_1000, l_1024, e_ltT, e_ltF, e_leT, e_leF, e_eqT, e_eqF, e_cl, e_in, e_gd, e_bd, e_ne, e_en, e_nlt, e_ltn, e_len, e_nle, e_nn, e_z0, e_z1, nI_add, pk_mul, e_sub, Nf_app, e_refl, e_reflN, reduceIte, ite_true_, ite_false_, s_1 hS]
        exact okS_some ⟨by rw [e]; exact hS, rfl⟩
      · simp (disch := omega) only [l_0, l_1, l_2, l_3, l_4, l_5, l_6, l_7, l_8, l_9, l_10, l_11, l_12, l_13, l_14, l_15, l_16, l_17, l_18, l_19, l_20, l_21, l_22, l_23, l_24, l_25, l_26, l_27, l_28, l_29, l_30, l_31, l_32, l_33, l_34, l_35, l_36, l_40, l_41, l_48, l_56, l_57, l_59, l_60, l_61, l_62, l_63, l_79, l_81, l_88, l_93, l_97, l_99, l_105, l_117, l_121, l_122, l_125, l_127, l_131, l_179, l_185, l_193, l_197, l_200, l_201, l_210, l_255, l_390, l_400, l_616, l_900, l_940, l_999, l_1000, l_1024, e_ltT, e_ltF, e_leT, e_leF, e_eqT, e_eqF, e_cl, e_in, e_gd, e_bd, e_ne, e_en, e_nlt, e_ltn, e_len, e_nle, e_nn, e_z0, e_z1, nI_add, pk_mul, e_sub, Nf_app, e_refl, e_reflN, reduceIte, ite_true_, ite_false_, s_1 hS]
        exact okS_some ⟨by rw [e]; exact hS, rfl⟩
    · obtain ⟨j, rfl⟩ : ∃ j, i = j + 1 := ⟨i - 1, by omega⟩
      have k1 := c_oh hQ hW hR hS hq
      have k2 := kh_le hQ hW hq (top := g (125 + q)) (Nat.le_refl _)
      by_cases c1 : o + kh g q (g (125 + q)) ≤ n
      · have hl : 0 < g (125 + q) := by omega
        have h0 := w_g0 hQ
        have ht := gT_lt hW hq hl
        have e := gD_sm (g := g) (i := gI g q) hq (by omega)
        have d := gD_len hQ hW (i := gI g q) hq hl
        obtain ⟨V', e1, hS', h12⟩ := c_drawB hQ hW hS hq hl
        obtain ⟨V'', e2, hS'', h12'⟩ := c_comb_l hq hn j (o + kh g q (g (125 + q))) f (g := gD g q (gI g q)) (V := V') (WQ.of e hQ) (ws_draw hQ hW hq hl (gI_le hW q).2) (QR.of e hQ hR) hS' (by omega) (by omega) (by omega) c1
        rw [show gL q n (j + 1) o g = gL q n j (o + kh g q (g (125 + q))) (gD g q (gI g q)) by rw [gL, if_pos ⟨hl, c1⟩]]
        have x1 : n - o - kh g q (g (125 + q)) = n - (o + kh g q (g (125 + q))) := by omega
        have x2 : 8 - (j + 1) + 1 = 8 - j := by omega
        simp (disch := omega) only [l_0, l_1, l_2, l_3, l_4, l_5, l_6, l_7, l_8, l_9, l_10, l_11, l_12, l_13, l_14, l_15, l_16, l_17, l_18, l_19, l_20, l_21, l_22, l_23, l_24, l_25, l_26, l_27, l_28, l_29, l_30, l_31, l_32, l_33, l_34, l_35, l_36, l_40, l_41, l_48, l_56, l_57, l_59, l_60, l_61, l_62, l_63, l_79, l_81, l_88, l_93, l_97, l_99, l_105, l_117, l_121, l_122, l_125, l_127, l_131, l_179, l_185, l_193, l_197, l_200, l_201, l_210, l_255, l_390, l_400, l_616, l_900, l_940, l_999, l_1000, l_1024, e_ltT, e_ltF, e_leT, e_leF, e_eqT, e_eqF, e_cl, e_in, e_gd, e_bd, e_ne, e_en, e_nlt, e_ltn, e_len, e_nle, e_nn, e_z0, e_z1, nI_add, pk_mul, e_sub, Nf_app, e_refl, e_reflN, reduceIte, ite_true_, ite_false_, s_1 hS, k1, e1, x1, x2, e2]
        exact okS_some ⟨hS'', h12'.trans h12⟩
      · rw [show gL q n (j + 1) o g = g by rw [gL, if_neg (by omega)]]
        simp (disch := omega) only [l_0, l_1, l_2, l_3, l_4, l_5, l_6, l_7, l_8, l_9, l_10, l_11, l_12, l_13, l_14, l_15, l_16, l_17, l_18, l_19, l_20, l_21, l_22, l_23, l_24, l_25, l_26, l_27, l_28, l_29, l_30, l_31, l_32, l_33, l_34, l_35, l_36, l_40, l_41, l_48, l_56, l_57, l_59, l_60, l_61, l_62, l_63, l_79, l_81, l_88, l_93, l_97, l_99, l_105, l_117, l_121, l_122, l_125, l_127, l_131, l_179, l_185, l_193, l_197, l_200, l_201, l_210, l_255, l_390, l_400, l_616, l_900, l_940, l_999, l_1000, l_1024, e_ltT, e_ltF, e_leT, e_leF, e_eqT, e_eqF, e_cl, e_in, e_gd, e_bd, e_ne, e_en, e_nlt, e_ltn, e_len, e_nle, e_nn, e_z0, e_z1, nI_add, pk_mul, e_sub, Nf_app, e_refl, e_reflN, reduceIte, ite_true_, ite_false_, s_1 hS, k1]
        exact okS_some ⟨hS, rfl⟩
theorem ws_pain {g : Nat → Nat} (hQ : WQ g) (hW : WS N g) {q n : Nat} (hq : q < g 1) (hn : g (179 + q) + n ≤ g (21 + q)) : WS N (gP g q n) := by
  have h1 := w_g1 hQ
  have e : ∀ j, (j < 121 ∨ 125 ≤ j ∧ j < 179 ∨ 185 ≤ j) → gP g q n j = g j := fun j hj => by
    unfold gP; rw [uv_ne (by omega), uv_ne (by omega)]
  obtain ⟨a0, a1, a2, a3, a4, a5⟩ := hW
  refine ⟨fun p hp => ?_, fun p hp j hj => ?_, fun p hp => ?_, ?_, fun t' h1 h2 => ?_, fun b hb_ => ?_⟩
  · rw [e _ (by omega)]; exact a0 p hp
  · rw [e _ (by omega)] at hj; have := a0 p hp; rw [e _ (by omega), e _ (by omega)]; exact a1 p hp j hj
  · rw [e _ (by omega)] at hp
    rw [e (21 + p) (by omega)]
    unfold gP
    rw [uv_ne (by omega)]
    by_cases h : p = q
    · subst h; rw [uv_eq rfl]; exact hn
    · rw [uv_ne (by omega)]; exact a2 p hp
  · rw [sm_cong (h := fun t => g (185 + t)) (fun k hk => e _ (by omega))]; exact a3
  · rw [e _ (by omega)] at h1; rw [e _ (by omega)]; exact a4 t' h1 h2
  · rw [e _ (by omega)]; exact a5 b hb_
theorem gP_sm {g : Nat → Nat} {q n : Nat} (hq : q < 6) : Sm g (gP g q n) := fun k hk => by
  unfold gP; rw [uv_ne (by omega), uv_ne (by omega)]
theorem ws_stroke {g : Nat → Nat} (hQ : WQ g) (hW : WS N g) {q n : Nat} (hq : q < g 1) (hn : g (179 + q) + n ≤ g (21 + q)) : WS N (gW g q n) ∧ Sm g (gW g q n) := by
  have h1 := w_g1 hQ
  have hb_ := w_bear hQ hq
  obtain ⟨a, b, c⟩ := gL_ok (N := N) (q := q) (n := n) (by omega) 8 0 hQ hW
  refine ⟨ws_pain (WQ.of b hQ) a (by rw [b 1 (by omega)]; exact hq) (by rw [c _ (by omega) (by omega), b (21 + q) (by omega)]; omega), b.trans (gP_sm (by omega))⟩
theorem c_stroke {g : Nat → Nat} {V V2 : Ob} (hQ : WQ g) (hW : WS N g) (hR : QR V2 g) (hS : SR V g) {q n : Nat} (hq : q < g 1) (hn : n < 1000) : okS (pX6_comb V V2 (nI q) (nI n)) (fun V' => SR V' (gW g q n) ∧ oI V' 12 = oI V 12) := by
  have h1 := w_g1 hQ
  have hq6 : q < 6 := by omega
  have hL := w_long hW hq6
  obtain ⟨V', e1, hS', h12⟩ := c_comb_l hq6 hn 8 0 fu hQ hW hR hS hL (by omega) (by rw [fu_eq]; omega) (by omega)
  obtain ⟨hW', b, c⟩ := gL_ok (N := N) (q := q) (n := n) hq6 8 0 hQ hW
  have b1 : gL q n 8 0 g 1 = g 1 := b 1 (by omega)
  rw [Nat.sub_zero, Nat.sub_self] at e1
  unfold pX6_comb
  simp (disch := omega) only [l_0, l_1, e1, e_bd, e_cl, e_in, e_gd, oI_sA, oI_sI, oA_sI, oA_sA, nI_add, s_2 hS', s_9 hS', reduceIte]
  refine okS_some ⟨?_, h12⟩
  unfold gW
  generalize gL q n 8 0 g = h at *
  have e : ∀ j, (j < 122 ∨ 123 ≤ j ∧ j < 179 ∨ 185 ≤ j) → gP h q n j = h j := fun j hj => by
    unfold gP; rw [uv_ne (by omega), uv_ne (by omega)]
  refine ⟨fun p hp j hj => ?_, fun p hp => ?_, fun p hp => ?_, fun p hp => ?_, fun p hp => ?_, fun p hp => ?_, fun p hp => ?_, ?_, ?_, ?_, ?_, ?_⟩ <;> simp only [oI_sI, oI_sA, oA_sI, oA_sA, Nat.reduceEqDiff, n10, n01, reduceIte]
  · rw [e _ (by omega)] at hj; have := w_long hW' hp; rw [e _ (by omega)]; exact s_0 hS' p hp j hj
  · rw [e _ (by omega)]; exact s_1 hS' p hp
  · rw [e _ (by omega)] at hp
    unfold gP
    rw [uv_ne (show 179 + p ≠ 122 by omega)]
    by_cases h2 : p = q
    · subst h2; rw [uv_eq rfl, uv_eq rfl]
    · rw [uv_ne h2, uv_ne (by omega)]; exact s_2 hS' p hp
  · rw [e _ (by omega)]; exact s_3 hS' p hp
  · rw [e _ (by omega)]; exact s_4 hS' p hp
  · rw [e _ (by omega)]; exact s_5 hS' p hp
  · rw [e _ (by omega)]; exact s_6 hS' p hp
  · rw [s_7 hS', sm_cong (h := fun t => h (185 + t)) (fun k hk => e _ (by omega))]
  · rw [e _ (by omega)]; exact s_8 hS'
  · unfold gP; rw [uv_eq rfl]
  · rw [e _ (by omega)]; exact s_10 hS'
  · rw [e _ (by omega)]; exact s_11 hS'
/-! stuffing -/
def gS (g : Nat → Nat) (b t : Nat) : Nat → Nat := va_up (va_up (va_up (va_up g (185 + t) (g (185 + t) - 1)) (193 + b) (g (193 + b) + g (13 + t))) (197 + b) (g (197 + b) + 1)) (201 + t) (g (201 + t) + 1)
theorem gS_at {g : Nat → Nat} {b t : Nat} (hb_ : b < 4) (ht : t < 8) : (∀ k, (k < 185 ∨ 209 ≤ k) → gS g b t k = g k) ∧ (∀ j, j < 8 → gS g b t (185 + j) = va_up (fun j => g (185 + j)) t (g (185 + t) - 1) j) ∧ (∀ j, j < 4 → gS g b t (193 + j) = if j = b then g (193 + b) + g (13 + t) else g (193 + j)) ∧ (∀ j, j < 4 → gS g b t (197 + j) = if j = b then g (197 + b) + 1 else g (197 + j)) ∧ (∀ j, j < 8 → gS g b t (201 + j) = if j = t then g (201 + t) + 1 else g (201 + j)) := by
  unfold gS
  refine ⟨fun k hk => ?_, fun j hj => ?_, fun j hj => ?_, fun j hj => ?_, fun j hj => ?_⟩
  · rw [uv_ne (by omega), uv_ne (by omega), uv_ne (by omega), uv_ne (by omega)]
  · rw [uv_ne (by omega), uv_ne (by omega), uv_ne (by omega)]
    by_cases h : j = t
    · rw [uv_eq (by omega), uv_eq h]
    · rw [uv_ne (by omega), uv_ne h]
  · rw [uv_ne (by omega), uv_ne (by omega)]
    by_cases h : j = b
    · rw [uv_eq (by omega), if_pos h]
    · rw [uv_ne (by omega), uv_ne (by omega), if_neg h]
  · rw [uv_ne (by omega)]
    by_cases h : j = b
    · rw [uv_eq (by omega), if_pos h]
    · rw [uv_ne (by omega), uv_ne (by omega), uv_ne (by omega), if_neg h]
  · by_cases h : j = t
    · rw [uv_eq (by omega), if_pos h]
    · rw [uv_ne (by omega), uv_ne (by omega), uv_ne (by omega), uv_ne (by omega), if_neg h]
theorem gS_sm {g : Nat → Nat} {b t : Nat} (hb_ : b < 4) (ht : t < 8) : Sm g (gS g b t) := fun k hk => (gS_at hb_ ht).1 k (by omega)
theorem gS_bag {g : Nat → Nat} {b t : Nat} (hb_ : b < 4) (ht : t < 8) (h0 : 0 < g (185 + t)) : gB0 (gS g b t) + 1 = gB0 g := by
  unfold gB0
  rw [sm_cong (h := va_up (fun j => g (185 + j)) t (g (185 + t) - 1)) (fun j h => (gS_at hb_ ht).2.1 j h)]
  have h : sm (va_up (fun j => g (185 + j)) t (g (185 + t) - 1)) 8 + g (185 + t) = sm (fun j => g (185 + j)) 8 + (g (185 + t) - 1) := sm_up (fun j => g (185 + j)) t (g (185 + t) - 1) (n := 8) ht
  omega
theorem ws_stuff {g : Nat → Nat} (hQ : WQ g) (hW : WS N g) {b t : Nat} (hb_ : b < 4) (ht : t < g 0) (h0 : 0 < g (185 + t)) : WS (N + 9) (gS g b t) := by
  have g0 := w_g0 hQ
  have g1 := w_g1 hQ
  have ht8 : t < 8 := by omega
  obtain ⟨b1, b2, b3, b4, b5⟩ := gS_at (g := g) hb_ ht8
  have hB := gS_bag (g := g) hb_ ht8 h0
  have hh := w_hold hQ ht
  obtain ⟨a0, a1, a2, a3, a4, a5⟩ := hW
  refine ⟨fun p hp => ?_, fun p hp j hj => ?_, fun p hp => ?_, ?_, fun t' h1 h2 => ?_, fun c hc => ?_⟩
  · rw [b1 _ (by omega)]; exact a0 p hp
  · rw [b1 _ (by omega)] at hj; have := a0 p hp; rw [b1 _ (by omega), b1 _ (by omega)]; exact a1 p hp j hj
  · rw [b1 _ (by omega)] at hp; rw [b1 _ (by omega), b1 (21 + p) (by omega)]; exact a2 p hp
  · show gB0 _ ≤ 10
    have : gB0 g ≤ 10 := a3
    omega
  · rw [b1 _ (by omega)] at h1; rw [b2 _ h2, uv_ne (by omega)]; exact a4 t' h1 h2
  · rw [b3 c hc]
    have e1 := a5 c hc
    have e2 := a5 b hb_
    split <;> omega
theorem r_stuff {g : Nat → Nat} {M : Ob} (hM : oA M 6 = Nf g) {b t : Nat} (hb_ : b < 4) (ht : t < 8) (h0 : 0 < g (185 + t)) : pX11_stuffs M (nI b) (nI t) = some (sA M 6 (Nf (gS g b t))) := by
  unfold pX11_stuffs
  simp (disch := omega) only [l_0, l_1, l_2, l_3, l_4, l_5, l_6, l_7, l_8, l_9, l_10, l_11, l_12, l_13, l_14, l_15, l_16, l_17, l_18, l_19, l_20, l_21, l_22, l_23, l_24, l_25, l_26, l_27, l_28, l_29, l_30, l_31, l_32, l_33, l_34, l_35, l_36, l_40, l_41, l_48, l_56, l_57, l_59, l_60, l_61, l_62, l_63, l_79, l_81, l_88, l_93, l_97, l_99, l_105, l_117, l_121, l_122, l_125, l_127, l_131, l_179, l_185, l_193, l_197, l_200, l_201, l_210, l_255, l_390, l_400, l_616, l_900, l_940, l_999, l_1000, l_1024, e_ltT, e_ltF, e_leT, e_leF, e_eqT, e_eqF, e_cl, e_in, e_gd, e_bd, e_ne, e_en, e_nlt, e_ltn, e_len, e_nle, e_nn, e_z0, e_z1, nI_add, pk_mul, e_sub, Nf_app, e_refl, e_reflN, reduceIte, ite_true_, ite_false_, oI_sI, oI_sL, oI_sW, oI_sA, oI_sJ, oI_sX, oL_sI, oL_sL, oL_sW, oL_sA, oL_sJ, oL_sX, oW_sI, oW_sL, oW_sW, oW_sA, oW_sJ, oW_sX, oA_sI, oA_sL, oA_sW, oA_sA, oA_sJ, oA_sX, oJ_sI, oJ_sL, oJ_sW, oJ_sA, oJ_sJ, oJ_sX, oX_sI, oX_sL, oX_sW, oX_sA, oX_sJ, oX_sX, Nat.reduceEqDiff, n10, n01, uv_eq, uv_ne, up_Nf, sA_sA, hM]
  rfl
theorem c_stuff {g : Nat → Nat} {V V2 : Ob} (hQ : WQ g) (hW : WS N g) (hR : QR V2 g) (hS : SR V g) {b t : Nat} (hb_ : b < 4) (ht : t < g 0) (h0 : 0 < g (185 + t)) : okS (pX6_fillBed V V2 (nI b) (nI t)) (fun V' => SR V' (gS g b t) ∧ oI V' 12 = oI V 12) := by
  have g0 := w_g0 hQ
  have g1 := w_g1 hQ
  have ht8 : t < 8 := by omega
  obtain ⟨b1, b2, b3, b4, b5⟩ := gS_at (g := g) hb_ ht8
  have hB := gS_bag (g := g) hb_ ht8 h0
  have k3 : oI V 7 = nI (gB0 g) := s_7 hS
  unfold pX6_fillBed
  simp (disch := omega) only [l_0, l_1, e_cl, e_in, e_gd, oI_sA, oI_sI, oA_sI, oA_sA, nI_add, e_sub, s_3 hS, s_4 hS, s_5 hS, s_6 hS, k3, q_3 hR, Nat.reduceEqDiff, n10, n01, reduceIte]
  refine okS_some ⟨?_, rfl⟩
  refine ⟨fun p hp j hj => ?_, fun p hp => ?_, fun p hp => ?_, fun p hp => ?_, fun p hp => ?_, fun p hp => ?_, fun p hp => ?_, ?_, ?_, ?_, ?_, ?_⟩ <;> simp only [oI_sI, oI_sA, oA_sI, oA_sA, Nat.reduceEqDiff, n10, n01, reduceIte]
  · rw [b1 _ (by omega)] at hj; have := w_long hW hp; rw [b1 _ (by omega)]; exact s_0 hS p hp j hj
  · rw [b1 _ (by omega)]; exact s_1 hS p hp
  · rw [b1 _ (by omega)] at hp; rw [b1 _ (by omega)]; exact s_2 hS p hp
  · rw [b2 p hp]
    by_cases h : p = t
    · rw [uv_eq h, uv_eq h]
    · rw [uv_ne h, uv_ne h]; exact s_3 hS p hp
  · rw [b5 p hp]
    by_cases h : p = t
    · rw [uv_eq h, if_pos h]
    · rw [uv_ne h, if_neg h]; exact s_4 hS p hp
  · rw [b3 p hp]
    by_cases h : p = b
    · rw [uv_eq h, if_pos h]
    · rw [uv_ne h, if_neg h]; exact s_5 hS p hp
  · rw [b4 p hp]
    by_cases h : p = b
    · rw [uv_eq h, if_pos h]
    · rw [uv_ne h, if_neg h]; exact s_6 hS p hp
  · show nI (gB0 g - 1) = nI (gB0 (gS g b t))
    congr 1; omega
  · rw [b1 _ (by omega)]; exact s_8 hS
  · rw [b1 _ (by omega)]; exact s_9 hS
  · rw [b1 _ (by omega)]; exact s_10 hS
  · rw [b1 _ (by omega)]; exact s_11 hS
end
