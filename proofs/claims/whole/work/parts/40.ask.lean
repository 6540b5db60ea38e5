/-! when one's hair is a nest -/
def cg (g : Nat → Nat) (q d : Nat) : Nat → Nat
  | 0 => 0
  | k + 1 => cg g q d k + (if g (81 + k) = q ∧ d % g (105 + k) = 0 then 1 else 0)
theorem cg_le (g : Nat → Nat) (q d : Nat) : ∀ k, cg g q d k ≤ k
  | 0 => Nat.le_refl _
  | k + 1 => by have := cg_le g q d k; rw [cg]; split <;> omega
theorem cg_cong {g h : Nat → Nat} (e : Sm g h) (q d : Nat) : ∀ {k : Nat}, k ≤ 12 → cg h q d k = cg g q d k
  | 0, _ => rfl
  | k + 1, hk => by rw [cg, cg, cg_cong e q d (by omega), e (81 + k) (by omega), e (105 + k) (by omega)]
def cu (g : Nat → Nat) (q : Nat) : Nat → Nat
  | 0 => g (125 + q)
  | d + 1 => cu g q d + cg g q (g 121 + d + 1) (g 2)
def nst (g : Nat → Nat) (q : Nat) : Nat → Nat → Option Nat
  | 0, _ => none
  | i + 1, d => if 8 ≤ cu g q d then some d else nst g q i (d + 1)
section
variable {N : Nat} {g : Nat → Nat} {M V V2 V8 V0 : Ob}
theorem gC_len {r t q : Nat} (hr6 : r < 6) (hq : q < 6) (hl : g (125 + r) < 8) : gC g r t (125 + q) = if q = r then g (125 + r) + 1 else g (125 + q) := by
  unfold gC
  by_cases h : q = r
  · subst h; rw [if_pos rfl, uv_eq rfl]
  · rw [if_neg h, uv_ne (by omega), uv_ne (by omega)]
theorem gY_len (hQ : WQ g) (hW : WS N g) {q : Nat} (hq : q < 6) : ∀ k, k ≤ g 2 → gY g k (125 + q) = min 8 (g (125 + q) + cg g q (g 121 + 1) k)
  | 0, _ => by
    have := w_long hW hq
    rw [gY, cg]; omega
  | k + 1, hk => by
    have ih := gY_len hQ hW hq k (by omega)
    obtain ⟨a, b, c⟩ := gY_ok hQ hW k (by omega)
    have g2 := w_g2 hQ
    have g1 := w_g1 hQ
    have d := w_daily hQ (i := k) (by omega)
    have e1 := b (81 + k) (by omega)
    have e2 := b (105 + k) (by omega)
    rw [gY, cg, c, e1, e2]
    by_cases c1 : (g 121 + 1) % g (105 + k) = 0
    · by_cases c2 : gY g k (125 + g (81 + k)) = 8
      · rw [if_neg (fun h => h.2 c2)]
        by_cases c3 : g (81 + k) = q
        · rw [c3] at c2
          rw [if_pos ⟨c3, c1⟩]; omega
        · rw [if_neg (fun h => c3 h.1)]; omega
      · have hl := w_long a (p := g (81 + k)) (by omega)
        rw [if_pos ⟨c1, c2⟩, gC_len (by omega) hq (by omega)]
        by_cases c3 : g (81 + k) = q
        · rw [c3] at c2 hl ⊢
          rw [if_pos rfl, if_pos ⟨rfl, c1⟩]; omega
        · rw [if_neg (fun h => c3 h.symm), if_neg (fun h => c3 h.1)]; omega
    · rw [if_neg (fun h => c1 h.1), if_neg (fun h => c1 h.2)]; omega
theorem gE_len (hQ : WQ g) (hW : WS N g) {q : Nat} (hq : q < 6) : gE g (125 + q) = min 8 (g (125 + q) + cg g q (g 121 + 1) (g 2)) := by
  have e := gZ_sm (g := g) 6 (by omega)
  have g2 := w_g2 hQ
  have e2 : gZ g 6 2 = g 2 := e 2 (by omega)
  have e3 : gZ g 6 (125 + q) = g (125 + q) := if_neg (by omega)
  have e4 : gZ g 6 121 = g 121 := if_neg (by omega)
  have h := gY_len (WQ.of e hQ) (ws_zero hQ hW) hq (g 2) (by omega)
  rw [e3, e4, cg_cong e q _ (by omega)] at h
  unfold gE
  rw [uv_ne (by omega), h]
theorem gN_snoc : ∀ (n : Nat) (g : Nat → Nat), gN (n + 1) g = gE (gN n g)
  | 0, _ => rfl
  | n + 1, g => by rw [gN, gN_snoc n (gE g)]; rfl
theorem gN_len (hQ : WQ g) (hW : WS N g) {q : Nat} (hq : q < 6) : ∀ d, gN d g (125 + q) = min 8 (cu g q d)
  | 0 => by
    have := w_long hW hq
    rw [gN, cu]; omega
  | d + 1 => by
    obtain ⟨a, b, c⟩ := gN_ok d hQ hW
    have g2 := w_g2 hQ
    rw [gN_snoc, gE_len (WQ.of b hQ) a hq, gN_len hQ hW hq d, c, b 2 (by omega), cg_cong b q _ g2, cu]
    omega
theorem r_nests_l2 (hQ : WQ g) (hW : WS N g) (hd : g 121 ≤ 400) {q : Nat} (hq : q < 6) (M : Ob) : ∀ (f i d : Nat), d + i = 100 → i < f → okS (pX11_nests_l23 (nI q) f (-nI 1) (nI d) (sA M 6 (Nf (gN d g)))) (fun r => r.1 = oN (nst g q i d) ∧ ∃ e, r.2 = sA M 6 (Nf (gN e g)))
  | 0, _, _, _, h => by omega
  | f + 1, i, d, h1, h2 => by
    obtain ⟨a, b, c⟩ := gN_ok d hQ hW
    rw [pX11_nests_l23]
    cases i with
    | zero =>
      simp (disch := omega) only [l_0, l_1, l_2, l_3, l_4, l_5, l_6, l_7, l_8, l_9, l_10, l_11, l_12, l_13, l_14, l_15, l_16, l_17, l_18, l_19, l_20, l_21, l_22, l_23, l_24, l_25, l_26, l_27, l_28, l_29, l_30, l_31, l_32, l_33, l_34, l_35, l_36, l_40, l_41, l_48, l_56, l_57, l_59, l_60, l_61, l_62, l_63, l_79, l_81, l_88, l_93, l_97, l_99, l_105, l_117, l_121, l_122, l_125, l_127, l_131, l_179, l_185, l_193, l_197, l_200, l_201, l_210, l_255, l_390, l_400, l_616, l_900, l_940, l_999, l_1000, l_1024, e_ltT, e_ltF, e_leT, e_leF, e_eqT, e_eqF, e_cl, e_in, e_gd, e_bd, e_ne, e_en, e_nlt, e_ltn, e_len, e_nle, e_nn, e_z0, e_z1, nI_add, pk_mul, e_sub, Nf_app, e_refl, e_reflN, reduceIte, ite_true_, ite_false_, oA6]
      exact okS_some ⟨rfl, d, rfl⟩
    | succ i =>
      have hn := r_nest a (oA6 M (Nf (gN d g))) hq
      have hday := r_day (WQ.of b hQ) a (oA6 M (Nf (gN d g))) (by omega)
      rw [sA_sA, ← gN_snoc] at hday
      have hl := gN_len hQ hW hq d
      rw [nst]
      by_cases c8 : 8 ≤ cu g q d
      · have hns : ns (gN d g) q = true := decide_eq_true (by rw [hl]; omega)
        rw [hns, b01_t] at hn
        have fin : pX11_nests_l23 (nI q) f (nI d) (nI (d + 1)) (sA M 6 (Nf (gN (d + 1) g))) = some (nI d, sA M 6 (Nf (gN (d + 1) g))) := by
          obtain ⟨f', rfl⟩ : ∃ f', f = f' + 1 := ⟨f - 1, by omega⟩
          rw [pX11_nests_l23]
          by_cases c9 : d = 99
          · simp (disch := omega) only [l_0, l_1, l_2, l_3, l_4, l_5, l_6, l_7, l_8, l_9, l_10, l_11, l_12, l_13, l_14, l_15, l_16, l_17, l_18, l_19, l_20, l_21, l_22, l_23, l_24, l_25, l_26, l_27, l_28, l_29, l_30, l_31, l_32, l_33, l_34, l_35, l_36, l_40, l_41, l_48, l_56, l_57, l_59, l_60, l_61, l_62, l_63, l_79, l_81, l_88, l_93, l_97, l_99, l_105, l_117, l_121, l_122, l_125, l_127, l_131, l_179, l_185, l_193, l_197, l_200, l_201, l_210, l_255, l_390, l_400, l_616, l_900, l_940, l_999, l_1000, l_1024, e_ltT, e_ltF, e_leT, e_leF, e_eqT, e_eqF, e_cl, e_in, e_gd, e_bd, e_ne, e_en, e_nlt, e_ltn, e_len, e_nle, e_nn, e_z0, e_z1, nI_add, pk_mul, e_sub, Nf_app, e_refl, e_reflN, reduceIte, ite_true_, ite_false_, oA6]
          · simp (disch := omega) only [l_0, l_1, l_2, l_3, l_4, l_5, l_6, l_7, l_8, l_9, l_10, l_11, l_12, l_13, l_14, l_15, l_16, l_17, l_18, l_19, l_20, l_21, l_22, l_23, l_24, l_25, l_26, l_27, l_28, l_29, l_30, l_31, l_32, l_33, l_34, l_35, l_36, l_40, l_41, l_48, l_56, l_57, l_59, l_60, l_61, l_62, l_63, l_79, l_81, l_88, l_93, l_97, l_99, l_105, l_117, l_121, l_122, l_125, l_127, l_131, l_179, l_185, l_193, l_197, l_200, l_201, l_210, l_255, l_390, l_400, l_616, l_900, l_940, l_999, l_1000, l_1024, e_ltT, e_ltF, e_leT, e_leF, e_eqT, e_eqF, e_cl, e_in, e_gd, e_bd, e_ne, e_en, e_nlt, e_ltn, e_len, e_nle, e_nn, e_z0, e_z1, nI_add, pk_mul, e_sub, Nf_app, e_refl, e_reflN, reduceIte, ite_true_, ite_false_, oA6]
        simp (disch := omega) only [l_0, l_1, l_2, l_3, l_4, l_5, l_6, l_7, l_8, l_9, l_10, l_11, l_12, l_13, l_14, l_15, l_16, l_17, l_18, l_19, l_20, l_21, l_22, l_23, l_24, l_25, l_26, l_27, l_28, l_29, l_30, l_31, l_32, l_33, l_34, l_35, l_36, l_40, l_41, l_48, l_56, l_57, l_59, l_60, l_61, l_62, l_63, l_79, l_81, l_88, l_93, l_97, l_99, l_105, l_117, l_121, l_122, l_125, l_127, l_131, l_179, l_185, l_193, l_197, l_200, l_201, l_210, l_255, l_390, l_400, l_616, l_900, l_940, l_999, l_1000, l_1024, e_ltT, e_ltF, e_leT, e_leF, e_eqT, e_eqF, e_cl, e_in, e_gd, e_bd, e_ne, e_en, e_nlt, e_ltn, e_len, e_nle, e_nn, e_z0, e_z1, nI_add, pk_mul, e_sub, Nf_app, e_refl, e_reflN, reduceIte, ite_true_, ite_false_, hn, pX11_nests_j43, hday, fin]
        refine okS_some ⟨?_, d + 1, rfl⟩
        rw [if_pos c8, oN]
      · have hns : ns (gN d g) q = false := decide_eq_false (by rw [hl]; omega)
        rw [hns, b01_f] at hn
        obtain ⟨r, x1, x2, x3⟩ := r_nests_l2 hQ hW hd hq M f i (d + 1) (by omega) (by omega)
        simp (disch := omega) only [l_0, l_1, l_2, l_3, l_4, l_5, l_6, l_7, l_8, l_9, l_10, l_11, l_12, l_13, l_14, l_15, l_16, l_17, l_18, l_19, l_20, l_21, l_22, l_23, l_24, l_25, l_26, l_27, l_28, l_29, l_30, l_31, l_32, l_33, l_34, l_35, l_36, l_40, l_41, l_48, l_56, l_57, l_59, l_60, l_61, l_62, l_63, l_79, l_81, l_88, l_93, l_97, l_99, l_105, l_117, l_121, l_122, l_125, l_127, l_131, l_179, l_185, l_193, l_197, l_200, l_201, l_210, l_255, l_390, l_400, l_616, l_900, l_940, l_999, l_1000, l_1024, e_ltT, e_ltF, e_leT, e_leF, e_eqT, e_eqF, e_cl, e_in, e_gd, e_bd, e_ne, e_en, e_nlt, e_ltn, e_len, e_nle, e_nn, e_z0, e_z1, nI_add, pk_mul, e_sub, Nf_app, e_refl, e_reflN, reduceIte, ite_true_, ite_false_, hn, pX11_nests_j43, hday, x1]
        refine okS_some ⟨?_, x3⟩
        rw [if_neg c8, x2]
theorem r_nests (hQ : WQ g) (hW : WS N g) (hd : g 121 ≤ 400) (hM : oA M 6 = Nf g) {q : Nat} (hq : q < 6) : okS ((pX11_tries M).bind fun r4 => (pX11_nests_l23 (nI q) fu (-nI 1) (nI 0) r4).bind fun r13 => (pX11_back r13.2).bind fun r15 => some (r13.1, r15)) (fun r => r.1 = oN (nst g q 100 0) ∧ ∃ X, r.2 = sA M 22 X) := by
  rw [r_tries, e_bd]
  obtain ⟨r, x1, x2, e, x3⟩ := r_nests_l2 hQ hW hd hq (sA M 22 (cpn (oA M 6) (oA M 22) 0 121 88)) fu 100 0 (by omega) (by rw [fu_eq]; omega)
  have z : sA (sA M 22 (cpn (oA M 6) (oA M 22) 0 121 88)) 6 (Nf (gN 0 g)) = sA M 22 (cpn (oA M 6) (oA M 22) 0 121 88) := by
    have : oA (sA M 22 (cpn (oA M 6) (oA M 22) 0 121 88)) 6 = Nf (gN 0 g) := by
      rw [oA_sA]; simp only [Nat.reduceEqDiff, reduceIte]; exact hM
    rw [← this, sA_self]
  rw [z] at x1
  rw [x1, e_bd, r_back, e_bd]
  refine okS_some ⟨x2, cpn (oA M 6) (oA M 22) 0 121 88, ?_⟩
  obtain ⟨a, b, c⟩ := gN_ok e hQ hW
  rw [x3]
  have y1 : oA (sA (sA M 22 (cpn (oA M 6) (oA M 22) 0 121 88)) 6 (Nf (gN e g))) 22 = cpn (oA M 6) (oA M 22) 0 121 88 := by simp (disch := omega) only [l_0, l_1, l_2, l_3, l_4, l_5, l_6, l_7, l_8, l_9, l_10, l_11, l_12, l_13, l_14, l_15, l_16, l_17, l_18, l_19, l_20, l_21, l_22, l_23, l_24, l_25, l_26, l_27, l_28, l_29, l_30, l_31, l_32, l_33, l_34, l_35, l_36, l_40, l_41, l_48, l_56, l_57, l_59, l_60, l_61, l_62, l_63, l_79, l_81, l_88, l_93, l_97, l_99, l_105, l_117, l_121, l_122, l_125, l_127, l_131, l_179, l_185, l_193, l_197, l_200, l_201, l_210, l_255, l_390, l_400, l_616, l_900, l_940, l_999, l_1000, l_1024, e_ltT, e_ltF, e_leT, e_leF, e_eqT, e_eqF, e_cl, e_in, e_gd, e_bd, e_ne, e_en, e_nlt, e_ltn, e_len, e_nle, e_nn, e_z0, e_z1, nI_add, pk_mul, e_sub, Nf_app, e_refl, e_reflN, reduceIte, ite_true_, ite_false_, oI_sI, oI_sL, oI_sW, oI_sA, oI_sJ, oI_sX, oL_sI, oL_sL, oL_sW, oL_sA, oL_sJ, oL_sX, oW_sI, oW_sL, oW_sW, oW_sA, oW_sJ, oW_sX, oA_sI, oA_sL, oA_sW, oA_sA, oA_sJ, oA_sX, oJ_sI, oJ_sL, oJ_sW, oJ_sA, oJ_sJ, oJ_sX, oX_sI, oX_sL, oX_sW, oX_sA, oX_sJ, oX_sX, Nat.reduceEqDiff, n10, n01, hM]
  rw [y1, oA6, back_g b (fun k hk => by rw [cpn_in (by omega) (by omega), hM, Nf_app, Nat.sub_zero]), sA_sA]
  have : oA (sA M 22 (cpn (oA M 6) (oA M 22) 0 121 88)) 6 = Nf g := by
    rw [oA_sA]; simp only [Nat.reduceEqDiff, reduceIte]; exact hM
  rw [← this, sA_self]
theorem c_caught (hQ : WQ g) (hR : QR V2 g) {q d : Nat} (hq : q < 6) (hd : d < 2000000) : ∀ (f k : Nat), k ≤ g 2 → g 2 - k < f → pX3_caughtOn_l6 V8 V2 (nI q) (nI d) f (nI (cg g q d k)) (nI k) = some (nI (cg g q d (g 2)))
  | 0, _, _, h => by omega
  | f + 1, k, h1, h2 => by
    have g2 := w_g2 hQ
    have g1 := w_g1 hQ
    rw [pX3_caughtOn_l6]
    by_cases hz : k = g 2
    · simp (disch := omega) only [l_0, l_1, l_2, l_3, l_4, l_5, l_6, l_7, l_8, l_9, l_10, l_11, l_12, l_13, l_14, l_15, l_16, l_17, l_18, l_19, l_20, l_21, l_22, l_23, l_24, l_25, l_26, l_27, l_28, l_29, l_30, l_31, l_32, l_33, l_34, l_35, l_36, l_40, l_41, l_48, l_56, l_57, l_59, l_60, l_61, l_62, l_63, l_79, l_81, l_88, l_93, l_97, l_99, l_105, l_117, l_121, l_122, l_125, l_127, l_131, l_179, l_185, l_193, l_197, l_200, l_201, l_210, l_255, l_390, l_400, l_616, l_900, l_940, l_999, l_1000, l_1024, e_ltT, e_ltF, e_leT, e_leF, e_eqT, e_eqF, e_cl, e_in, e_gd, e_bd, e_ne, e_en, e_nlt, e_ltn, e_len, e_nle, e_nn, e_z0, e_z1, nI_add, pk_mul, e_sub, Nf_app, e_refl, e_reflN, reduceIte, ite_true_, ite_false_, q_7 hR]
      rw [hz]
    · have hk : k < g 2 := by omega
      have w := w_daily hQ hk
      have ih := c_caught hQ hR hq hd f (k + 1) (by omega) (by omega)
      have on := c_on hQ hR hk hd
      have q8 := q_8 hR k hk
      rw [cg] at ih
      by_cases c1 : g (81 + k) = q
      · by_cases c2 : d % g (105 + k) = 0
        · rw [if_pos ⟨c1, c2⟩] at ih
          rw [decide_eq_true c2, b01_t] at on
          simp (disch := omega) only [l_0, l_1, l_2, l_3, l_4, l_5, l_6, l_7, l_8, l_9, l_10, l_11, l_12, l_13, l_14, l_15, l_16, l_17, l_18, l_19, l_20, l_21, l_22, l_23, l_24, l_25, l_26, l_27, l_28, l_29, l_30, l_31, l_32, l_33, l_34, l_35, l_36, l_40, l_41, l_48, l_56, l_57, l_59, l_60, l_61, l_62, l_63, l_79, l_81, l_88, l_93, l_97, l_99, l_105, l_117, l_121, l_122, l_125, l_127, l_131, l_179, l_185, l_193, l_197, l_200, l_201, l_210, l_255, l_390, l_400, l_616, l_900, l_940, l_999, l_1000, l_1024, e_ltT, e_ltF, e_leT, e_leF, e_eqT, e_eqF, e_cl, e_in, e_gd, e_bd, e_ne, e_en, e_nlt, e_ltn, e_len, e_nle, e_nn, e_z0, e_z1, nI_add, pk_mul, e_sub, Nf_app, e_refl, e_reflN, reduceIte, ite_true_, ite_false_, q_7 hR, q8, on, ih]
        · rw [if_neg (fun h => c2 h.2), Nat.add_zero] at ih
          rw [decide_eq_false c2, b01_f] at on
          simp (disch := omega) only [l_0, l_1, l_2, l_3, l_4, l_5, l_6, l_7, l_8, l_9, l_10, l_11, l_12, l_13, l_14, l_15, l_16, l_17, l_18, l_19, l_20, l_21, l_22, l_23, l_24, l_25, l_26, l_27, l_28, l_29, l_30, l_31, l_32, l_33, l_34, l_35, l_36, l_40, l_41, l_48, l_56, l_57, l_59, l_60, l_61, l_62, l_63, l_79, l_81, l_88, l_93, l_97, l_99, l_105, l_117, l_121, l_122, l_125, l_127, l_131, l_179, l_185, l_193, l_197, l_200, l_201, l_210, l_255, l_390, l_400, l_616, l_900, l_940, l_999, l_1000, l_1024, e_ltT, e_ltF, e_leT, e_leF, e_eqT, e_eqF, e_cl, e_in, e_gd, e_bd, e_ne, e_en, e_nlt, e_ltn, e_len, e_nle, e_nn, e_z0, e_z1, nI_add, pk_mul, e_sub, Nf_app, e_refl, e_reflN, reduceIte, ite_true_, ite_false_, q_7 hR, q8, on, ih]
      · rw [if_neg (fun h => c1 h.1), Nat.add_zero] at ih
        simp (disch := omega) only [l_0, l_1, l_2, l_3, l_4, l_5, l_6, l_7, l_8, l_9, l_10, l_11, l_12, l_13, l_14, l_15, l_16, l_17, l_18, l_19, l_20, l_21, l_22, l_23, l_24, l_25, l_26, l_27, l_28, l_29, l_30, l_31, l_32, l_33, l_34, l_35, l_36, l_40, l_41, l_48, l_56, l_57, l_59, l_60, l_61, l_62, l_63, l_79, l_81, l_88, l_93, l_97, l_99, l_105, l_117, l_121, l_122, l_125, l_127, l_131, l_179, l_185, l_193, l_197, l_200, l_201, l_210, l_255, l_390, l_400, l_616, l_900, l_940, l_999, l_1000, l_1024, e_ltT, e_ltF, e_leT, e_leF, e_eqT, e_eqF, e_cl, e_in, e_gd, e_bd, e_ne, e_en, e_nlt, e_ltn, e_len, e_nle, e_nn, e_z0, e_z1, nI_add, pk_mul, e_sub, Nf_app, e_refl, e_reflN, reduceIte, ite_true_, ite_false_, q_7 hR, q8, ih]
theorem c_nest_l (hQ : WQ g) (hW : WS N g) (hd : g 121 ≤ 400) (hR : QR V2 g) (hS : SR V g) {q : Nat} (hq : q < 6) : ∀ (f i d x : Nat), d + i = 100 → i < f → x < 8 ∨ d = 0 ∧ x ≤ 8 → x + (if d = 0 then 0 else cg g q (g 121 + d) (g 2)) = cu g q d → pX3_daysToNest_l11 V8 V2 V (nI q) f (nI x) (nI d) = some (oN (nst g q i d))
  | 0, _, _, _, _, h, _, _ => by omega
  | f + 1, i, d, x, h1, h2, h3, h4 => by
    have g2 := w_g2 hQ
    have cl := cg_le g q (g 121 + d) (g 2)
    rw [pX3_daysToNest_l11]
    cases i with
    | zero =>
      simp (disch := omega) only [l_0, l_1, l_2, l_3, l_4, l_5, l_6, l_7, l_8, l_9, l_10, l_11, l_12, l_13, l_14, l_15, l_16, l_17, l_18, l_19, l_20, l_21, l_22, l_23, l_24, l_25, l_26, l_27, l_28, l_29, l_30, l_31, l_32, l_33, l_34, l_35, l_36, l_40, l_41, l_48, l_56, l_57, l_59, l_60, l_61, l_62, l_63, l_79, l_81, l_88, l_93, l_97, l_99, l_105, l_117, l_121, l_122, l_125, l_127, l_131, l_179, l_185, l_193, l_197, l_200, l_201, l_210, l_255, l_390, l_400, l_616, l_900, l_940, l_999, l_1000, l_1024, e_ltT, e_ltF, e_leT, e_leF, e_eqT, e_eqF, e_cl, e_in, e_gd, e_bd, e_ne, e_en, e_nlt, e_ltn, e_len, e_nle, e_nn, e_z0, e_z1, nI_add, pk_mul, e_sub, Nf_app, e_refl, e_reflN, reduceIte, ite_true_, ite_false_, hR.1]
      rfl
    | succ i =>
      have ih : ¬ 8 ≤ cu g q d → pX3_daysToNest_l11 V8 V2 V (nI q) f (nI (cu g q d)) (nI (d + 1)) = some (oN (nst g q i (d + 1))) := fun c8 => c_nest_l hQ hW hd hR hS hq f i (d + 1) (cu g q d) (by omega) (by omega) (by omega) (by rw [if_neg (by omega), cu]; rfl)
      rw [nst]
      by_cases c0 : d = 0
      · subst c0
        rw [if_pos rfl, Nat.add_zero] at h4
        by_cases c8 : 8 ≤ cu g q 0
        · simp (disch := omega) only [l_0, l_1, l_2, l_3, l_4, l_5, l_6, l_7, l_8, l_9, l_10, l_11, l_12, l_13, l_14, l_15, l_16, l_17, l_18, l_19, l_20, l_21, l_22, l_23, l_24, l_25, l_26, l_27, l_28, l_29, l_30, l_31, l_32, l_33, l_34, l_35, l_36, l_40, l_41, l_48, l_56, l_57, l_59, l_60, l_61, l_62, l_63, l_79, l_81, l_88, l_93, l_97, l_99, l_105, l_117, l_121, l_122, l_125, l_127, l_131, l_179, l_185, l_193, l_197, l_200, l_201, l_210, l_255, l_390, l_400, l_616, l_900, l_940, l_999, l_1000, l_1024, e_ltT, e_ltF, e_leT, e_leF, e_eqT, e_eqF, e_cl, e_in, e_gd, e_bd, e_ne, e_en, e_nlt, e_ltn, e_len, e_nle, e_nn, e_z0, e_z1, nI_add, pk_mul, e_sub, Nf_app, e_refl, e_reflN, reduceIte, ite_true_, ite_false_, pX3_daysToNest_j41]
          rw [if_pos c8, oN]
        · have ih := ih c8
          rw [← h4] at ih
          simp (disch := omega) only [l_0, l_1, l_2, l_3, l_4, l_5, l_6, l_7, l_8, l_9, l_10, l_11, l_12, l_13, l_14, l_15, l_16, l_17, l_18, l_19, l_20, l_21, l_22, l_23, l_24, l_25, l_26, l_27, l_28, l_29, l_30, l_31, l_32, l_33, l_34, l_35, l_36, l_40, l_41, l_48, l_56, l_57, l_59, l_60, l_61, l_62, l_63, l_79, l_81, l_88, l_93, l_97, l_99, l_105, l_117, l_121, l_122, l_125, l_127, l_131, l_179, l_185, l_193, l_197, l_200, l_201, l_210, l_255, l_390, l_400, l_616, l_900, l_940, l_999, l_1000, l_1024, e_ltT, e_ltF, e_leT, e_leF, e_eqT, e_eqF, e_cl, e_in, e_gd, e_bd, e_ne, e_en, e_nlt, e_ltn, e_len, e_nle, e_nn, e_z0, e_z1, nI_add, pk_mul, e_sub, Nf_app, e_refl, e_reflN, reduceIte, ite_true_, ite_false_, pX3_daysToNest_j41, ih]
          rw [if_neg c8]
      · rw [if_neg c0] at h4
        have cc : pX3_caughtOn V8 V2 (nI q) (nI (g 121 + d)) = some (nI (cg g q (g 121 + d) (g 2))) := by
          have h := c_caught (V8 := V8) hQ hR hq (d := g 121 + d) (by omega) fu 0 (by omega) (by rw [fu_eq]; omega)
          rw [cg] at h
          unfold pX3_caughtOn
          rw [l_0, h, e_bd]
        by_cases c8 : 8 ≤ cu g q d
        · simp (disch := omega) only [l_0, l_1, l_2, l_3, l_4, l_5, l_6, l_7, l_8, l_9, l_10, l_11, l_12, l_13, l_14, l_15, l_16, l_17, l_18, l_19, l_20, l_21, l_22, l_23, l_24, l_25, l_26, l_27, l_28, l_29, l_30, l_31, l_32, l_33, l_34, l_35, l_36, l_40, l_41, l_48, l_56, l_57, l_59, l_60, l_61, l_62, l_63, l_79, l_81, l_88, l_93, l_97, l_99, l_105, l_117, l_121, l_122, l_125, l_127, l_131, l_179, l_185, l_193, l_197, l_200, l_201, l_210, l_255, l_390, l_400, l_616, l_900, l_940, l_999, l_1000, l_1024, e_ltT, e_ltF, e_leT, e_leF, e_eqT, e_eqF, e_cl, e_in, e_gd, e_bd, e_ne, e_en, e_nlt, e_ltn, e_len, e_nle, e_nn, e_z0, e_z1, nI_add, pk_mul, e_sub, Nf_app, e_refl, e_reflN, reduceIte, ite_true_, ite_false_, pX3_daysToNest_j41, s_8 hS, cc, h4]
          rw [if_pos c8, oN]
        · have ih := ih c8
          simp (disch := omega) only [l_0, l_1, l_2, l_3, l_4, l_5, l_6, l_7, l_8, l_9, l_10, l_11, l_12, l_13, l_14, l_15, l_16, l_17, l_18, l_19, l_20, l_21, l_22, l_23, l_24, l_25, l_26, l_27, l_28, l_29, l_30, l_31, l_32, l_33, l_34, l_35, l_36, l_40, l_41, l_48, l_56, l_57, l_59, l_60, l_61, l_62, l_63, l_79, l_81, l_88, l_93, l_97, l_99, l_105, l_117, l_121, l_122, l_125, l_127, l_131, l_179, l_185, l_193, l_197, l_200, l_201, l_210, l_255, l_390, l_400, l_616, l_900, l_940, l_999, l_1000, l_1024, e_ltT, e_ltF, e_leT, e_leF, e_eqT, e_eqF, e_cl, e_in, e_gd, e_bd, e_ne, e_en, e_nlt, e_ltn, e_len, e_nle, e_nn, e_z0, e_z1, nI_add, pk_mul, e_sub, Nf_app, e_refl, e_reflN, reduceIte, ite_true_, ite_false_, pX3_daysToNest_j41, s_8 hS, cc, h4, ih]
          rw [if_neg c8]
theorem c_nests2 (hQ : WQ g) (hW : WS N g) (hd : g 121 ≤ 400) (hR : QR V2 g) (hS : SR V g) {q : Nat} (hq : q < 6) : pX3_daysToNest V8 V2 V (nI q) = some (oN (nst g q 100 0)) := by
  have hL := w_long hW hq
  have h := c_nest_l (V8 := V8) hQ hW hd hR hS hq fu 100 0 (g (125 + q)) (by omega) (by rw [fu_eq]; omega) (by omega) rfl
  unfold pX3_daysToNest
  simp (disch := omega) only [l_0, l_1, l_2, l_3, l_4, l_5, l_6, l_7, l_8, l_9, l_10, l_11, l_12, l_13, l_14, l_15, l_16, l_17, l_18, l_19, l_20, l_21, l_22, l_23, l_24, l_25, l_26, l_27, l_28, l_29, l_30, l_31, l_32, l_33, l_34, l_35, l_36, l_40, l_41, l_48, l_56, l_57, l_59, l_60, l_61, l_62, l_63, l_79, l_81, l_88, l_93, l_97, l_99, l_105, l_117, l_121, l_122, l_125, l_127, l_131, l_179, l_185, l_193, l_197, l_200, l_201, l_210, l_255, l_390, l_400, l_616, l_900, l_940, l_999, l_1000, l_1024, e_ltT, e_ltF, e_leT, e_leF, e_eqT, e_eqF, e_cl, e_in, e_gd, e_bd, e_ne, e_en, e_nlt, e_ltn, e_len, e_nle, e_nn, e_z0, e_z1, nI_add, pk_mul, e_sub, Nf_app, e_refl, e_reflN, reduceIte, ite_true_, ite_false_, s_1 hS, h]
/-! odds -/
noncomputable def od (g : Nat → Nat) (q d : Nat) (x : Int32) : Nat → Nat
  | 0 => 0
  | i + 1 => od g q d x i + b01 (ns (gX d g (x + nI i)).1 q)
theorem r_odds_l (hQ : WQ g) (hW : WS N g) (hd : g 121 ≤ 400) {q n : Nat} (hq : q < 6) (hn : n < 1000) (x : Int32) (M : Ob) (h6 : oA M 6 = Nf g) (h22 : ∀ k, k < 88 → oA M 22 k = nI (g (121 + k))) : ∀ (f i : Nat) (y : Int32), i ≤ n → n - i < f → okS (pX11_odds_l35 (nI q) (nI n) x f (nI (od g q (min 10 (400 - g 121)) x i)) (nI i) (sI M 35 y)) (fun r => r.1 = nI (od g q (min 10 (400 - g 121)) x n) ∧ ∃ y', r.2 = sI M 35 y')
  | 0, _, _, _, h => by omega
  | f + 1, i, y, h1, h2 => by
    rw [pX11_odds_l35]
    by_cases hz : i = n
    · simp (disch := omega) only [l_0, l_1, l_2, l_3, l_4, l_5, l_6, l_7, l_8, l_9, l_10, l_11, l_12, l_13, l_14, l_15, l_16, l_17, l_18, l_19, l_20, l_21, l_22, l_23, l_24, l_25, l_26, l_27, l_28, l_29, l_30, l_31, l_32, l_33, l_34, l_35, l_36, l_40, l_41, l_48, l_56, l_57, l_59, l_60, l_61, l_62, l_63, l_79, l_81, l_88, l_93, l_97, l_99, l_105, l_117, l_121, l_122, l_125, l_127, l_131, l_179, l_185, l_193, l_197, l_200, l_201, l_210, l_255, l_390, l_400, l_616, l_900, l_940, l_999, l_1000, l_1024, e_ltT, e_ltF, e_leT, e_leF, e_eqT, e_eqF, e_cl, e_in, e_gd, e_bd, e_ne, e_en, e_nlt, e_ltn, e_len, e_nle, e_nn, e_z0, e_z1, nI_add, pk_mul, e_sub, Nf_app, e_refl, e_reflN, reduceIte, ite_true_, ite_false_, h6]
      exact okS_some ⟨by rw [hz], y, rfl⟩
    · have hc := r_chances (M := sI M 35 y) (n := 10) (by omega) hQ hW h6 (x + nI i) hd
      rw [sI_sA, sI_sI] at hc
      obtain ⟨a, b, c⟩ := gX_ok (min 10 (400 - g 121)) (x + nI i) hQ hW
      have hnest := r_nest a (oA6I M (Nf (gX (min 10 (400 - g 121)) g (x + nI i)).1) (gX (min 10 (400 - g 121)) g (x + nI i)).2) hq
      have hb := r_back (sI (sA M 6 (Nf (gX (min 10 (400 - g 121)) g (x + nI i)).1)) 35 (gX (min 10 (400 - g 121)) g (x + nI i)).2)
      have y1 : oA (sI (sA M 6 (Nf (gX (min 10 (400 - g 121)) g (x + nI i)).1)) 35 (gX (min 10 (400 - g 121)) g (x + nI i)).2) 22 = oA M 22 := by simp (disch := omega) only [l_0, l_1, l_2, l_3, l_4, l_5, l_6, l_7, l_8, l_9, l_10, l_11, l_12, l_13, l_14, l_15, l_16, l_17, l_18, l_19, l_20, l_21, l_22, l_23, l_24, l_25, l_26, l_27, l_28, l_29, l_30, l_31, l_32, l_33, l_34, l_35, l_36, l_40, l_41, l_48, l_56, l_57, l_59, l_60, l_61, l_62, l_63, l_79, l_81, l_88, l_93, l_97, l_99, l_105, l_117, l_121, l_122, l_125, l_127, l_131, l_179, l_185, l_193, l_197, l_200, l_201, l_210, l_255, l_390, l_400, l_616, l_900, l_940, l_999, l_1000, l_1024, e_ltT, e_ltF, e_leT, e_leF, e_eqT, e_eqF, e_cl, e_in, e_gd, e_bd, e_ne, e_en, e_nlt, e_ltn, e_len, e_nle, e_nn, e_z0, e_z1, nI_add, pk_mul, e_sub, Nf_app, e_refl, e_reflN, reduceIte, ite_true_, ite_false_, oI_sI, oI_sL, oI_sW, oI_sA, oI_sJ, oI_sX, oL_sI, oL_sL, oL_sW, oL_sA, oL_sJ, oL_sX, oW_sI, oW_sL, oW_sW, oW_sA, oW_sJ, oW_sX, oA_sI, oA_sL, oA_sW, oA_sA, oA_sJ, oA_sX, oJ_sI, oJ_sL, oJ_sW, oJ_sA, oJ_sJ, oJ_sX, oX_sI, oX_sL, oX_sW, oX_sA, oX_sJ, oX_sX, Nat.reduceEqDiff, n10, n01, h6]
      rw [y1, oA6I, back_g b h22, sI_sA, sA_sA, ← h6, sA_self] at hb
      have ih := r_odds_l hQ hW hd hq hn x M h6 h22 f (i + 1) (gX (min 10 (400 - g 121)) g (x + nI i)).2 (by omega) (by omega)
      rw [od] at ih
      cases hns : ns (gX (min 10 (400 - g 121)) g (x + nI i)).1 q with
      | true =>
        rw [hns, b01_t] at hnest ih
        simp (disch := omega) only [l_0, l_1, l_2, l_3, l_4, l_5, l_6, l_7, l_8, l_9, l_10, l_11, l_12, l_13, l_14, l_15, l_16, l_17, l_18, l_19, l_20, l_21, l_22, l_23, l_24, l_25, l_26, l_27, l_28, l_29, l_30, l_31, l_32, l_33, l_34, l_35, l_36, l_40, l_41, l_48, l_56, l_57, l_59, l_60, l_61, l_62, l_63, l_79, l_81, l_88, l_93, l_97, l_99, l_105, l_117, l_121, l_122, l_125, l_127, l_131, l_179, l_185, l_193, l_197, l_200, l_201, l_210, l_255, l_390, l_400, l_616, l_900, l_940, l_999, l_1000, l_1024, e_ltT, e_ltF, e_leT, e_leF, e_eqT, e_eqF, e_cl, e_in, e_gd, e_bd, e_ne, e_en, e_nlt, e_ltn, e_len, e_nle, e_nn, e_z0, e_z1, nI_add, pk_mul, e_sub, Nf_app, e_refl, e_reflN, reduceIte, ite_true_, ite_false_, hc, hnest, pX11_odds_j67, hb]
        exact ih
      | false =>
        rw [hns, b01_f] at hnest ih
        simp (disch := omega) only [l_0, l_1, l_2, l_3, l_4, l_5, l_6, l_7, l_8, l_9, l_10, l_11, l_12, l_13, l_14, l_15, l_16, l_17, l_18, l_19, l_20, l_21, l_22, l_23, l_24, l_25, l_26, l_27, l_28, l_29, l_30, l_31, l_32, l_33, l_34, l_35, l_36, l_40, l_41, l_48, l_56, l_57, l_59, l_60, l_61, l_62, l_63, l_79, l_81, l_88, l_93, l_97, l_99, l_105, l_117, l_121, l_122, l_125, l_127, l_131, l_179, l_185, l_193, l_197, l_200, l_201, l_210, l_255, l_390, l_400, l_616, l_900, l_940, l_999, l_1000, l_1024, e_ltT, e_ltF, e_leT, e_leF, e_eqT, e_eqF, e_cl, e_in, e_gd, e_bd, e_ne, e_en, e_nlt, e_ltn, e_len, e_nle, e_nn, e_z0, e_z1, nI_add, pk_mul, e_sub, Nf_app, e_refl, e_reflN, reduceIte, ite_true_, ite_false_, hc, hnest, pX11_odds_j67, hb]
        exact ih
theorem c_odds_l (hQ : WQ g) (hW : WS N g) (hd : g 121 ≤ 400) (hR : QR V2 g) (hS : SR V g) {q n : Nat} (hq : q < 6) (hn : n < 1000) (x : Int32) : ∀ (f i : Nat) (T : Ob), i ≤ n → n - i < f → okS (pX10_odds_l27 V0 V2 V (nI q) (nI n) x f (nI (od g q (min 10 (400 - g 121)) x i)) (nI i) T) (fun r => r.1 = nI (od g q (min 10 (400 - g 121)) x n))
  | 0, _, _, _, h => by omega
  | f + 1, i, T, h1, h2 => by
    rw [pX10_odds_l27]
    by_cases hz : i = n
    · simp (disch := omega) only [l_0, l_1, l_2, l_3, l_4, l_5, l_6, l_7, l_8, l_9, l_10, l_11, l_12, l_13, l_14, l_15, l_16, l_17, l_18, l_19, l_20, l_21, l_22, l_23, l_24, l_25, l_26, l_27, l_28, l_29, l_30, l_31, l_32, l_33, l_34, l_35, l_36, l_40, l_41, l_48, l_56, l_57, l_59, l_60, l_61, l_62, l_63, l_79, l_81, l_88, l_93, l_97, l_99, l_105, l_117, l_121, l_122, l_125, l_127, l_131, l_179, l_185, l_193, l_197, l_200, l_201, l_210, l_255, l_390, l_400, l_616, l_900, l_940, l_999, l_1000, l_1024, e_ltT, e_ltF, e_leT, e_leF, e_eqT, e_eqF, e_cl, e_in, e_gd, e_bd, e_ne, e_en, e_nlt, e_ltn, e_len, e_nle, e_nn, e_z0, e_z1, nI_add, pk_mul, e_sub, Nf_app, e_refl, e_reflN, reduceIte, ite_true_, ite_false_, hR.1]
      exact okS_some (by rw [hz])
    · obtain ⟨W, w1, w2⟩ := c_copy (S := T) hW hQ hS
      have e1 : pX6_daysLeft W = some (nI (400 - g 121)) := by
        unfold pX6_daysLeft
        simp (disch := omega) only [l_0, l_1, l_2, l_3, l_4, l_5, l_6, l_7, l_8, l_9, l_10, l_11, l_12, l_13, l_14, l_15, l_16, l_17, l_18, l_19, l_20, l_21, l_22, l_23, l_24, l_25, l_26, l_27, l_28, l_29, l_30, l_31, l_32, l_33, l_34, l_35, l_36, l_40, l_41, l_48, l_56, l_57, l_59, l_60, l_61, l_62, l_63, l_79, l_81, l_88, l_93, l_97, l_99, l_105, l_117, l_121, l_122, l_125, l_127, l_131, l_179, l_185, l_193, l_197, l_200, l_201, l_210, l_255, l_390, l_400, l_616, l_900, l_940, l_999, l_1000, l_1024, e_ltT, e_ltF, e_leT, e_leF, e_eqT, e_eqF, e_cl, e_in, e_gd, e_bd, e_ne, e_en, e_nlt, e_ltn, e_len, e_nle, e_nn, e_z0, e_z1, nI_add, pk_mul, e_sub, Nf_app, e_refl, e_reflN, reduceIte, ite_true_, ite_false_, s_8 w2]
      obtain ⟨W2, x1, x2⟩ := c_chances (n := min 10 (400 - g 121)) (by omega) hQ hW hR w2 (x + nI i) (by omega)
      obtain ⟨a, b, c⟩ := gX_ok (min 10 (400 - g 121)) (x + nI i) hQ hW
      have hnest := c_nest a x2 hq
      have ih := c_odds_l hQ hW hd hR hS hq hn x f (i + 1) W2 (by omega) (by omega)
      rw [od] at ih
      cases hns : ns (gX (min 10 (400 - g 121)) g (x + nI i)).1 q with
      | true =>
        rw [hns, b01_t] at hnest ih
        by_cases c9 : 400 - g 121 < 10
        · rw [show min 10 (400 - g 121) = 400 - g 121 by omega] at *
          simp (disch := omega) only [l_0, l_1, l_10, e_leF, e_ltT, reduceIte, w1, e_bd, e1, x1, hnest, e_eqF, nI_add]
          exact ih
        · rw [show min 10 (400 - g 121) = 10 by omega] at *
          simp (disch := omega) only [l_0, l_1, l_10, e_leF, e_ltF, reduceIte, w1, e_bd, e1, x1, hnest, e_eqF, nI_add]
          exact ih
      | false =>
        rw [hns, b01_f, Nat.add_zero] at ih
        rw [hns, b01_f] at hnest
        by_cases c9 : 400 - g 121 < 10
        · rw [show min 10 (400 - g 121) = 400 - g 121 by omega] at *
          simp (disch := omega) only [l_0, l_1, l_10, e_leF, e_ltT, reduceIte, w1, e_bd, e1, x1, hnest, e_eqT, nI_add]
          exact ih
        · rw [show min 10 (400 - g 121) = 10 by omega] at *
          simp (disch := omega) only [l_0, l_1, l_10, e_leF, e_ltF, reduceIte, w1, e_bd, e1, x1, hnest, e_eqT, nI_add]
          exact ih
/-! who is like whom -/
def lp (g : Nat → Nat) (q r : Nat) : Bool := decide (r ≠ q) && lk g q r
theorem r_likes (hQ : WQ g) (hW : WS N g) (hM : oA M 6 = Nf g) {q : Nat} (hq : q < 6) : ∀ (f k : Nat), k ≤ g 1 → g 1 - k < f → pX11_like_l19 M (nI q) f (nI (bs (lp g q) k)) (nI k) = some (nI (bs (lp g q) (g 1)))
  | 0, _, _, h => by omega
  | f + 1, k, h1, h2 => by
    have g1 := w_g1 hQ
    rw [pX11_like_l19]
    by_cases hz : k = g 1
    · simp (disch := omega) only [l_0, l_1, l_2, l_3, l_4, l_5, l_6, l_7, l_8, l_9, l_10, l_11, l_12, l_13, l_14, l_15, l_16, l_17, l_18, l_19, l_20, l_21, l_22, l_23, l_24, l_25, l_26, l_27, l_28, l_29, l_30, l_31, l_32, l_33, l_34, l_35, l_36, l_40, l_41, l_48, l_56, l_57, l_59, l_60, l_61, l_62, l_63, l_79, l_81, l_88, l_93, l_97, l_99, l_105, l_117, l_121, l_122, l_125, l_127, l_131, l_179, l_185, l_193, l_197, l_200, l_201, l_210, l_255, l_390, l_400, l_616, l_900, l_940, l_999, l_1000, l_1024, e_ltT, e_ltF, e_leT, e_leF, e_eqT, e_eqF, e_cl, e_in, e_gd, e_bd, e_ne, e_en, e_nlt, e_ltn, e_len, e_nle, e_nn, e_z0, e_z1, nI_add, pk_mul, e_sub, Nf_app, e_refl, e_reflN, reduceIte, ite_true_, ite_false_, hM]
      rw [hz]
    · have ih := r_likes hQ hW hM hq f (k + 1) (by omega) (by omega)
      have hl := r_like hQ hW hM hq (r := k) (by omega)
      by_cases c : k = q
      · have e : lp g q k = false := by unfold lp; simp [c]
        rw [bs_f e] at ih
        simp (disch := omega) only [l_0, l_1, l_2, l_3, l_4, l_5, l_6, l_7, l_8, l_9, l_10, l_11, l_12, l_13, l_14, l_15, l_16, l_17, l_18, l_19, l_20, l_21, l_22, l_23, l_24, l_25, l_26, l_27, l_28, l_29, l_30, l_31, l_32, l_33, l_34, l_35, l_36, l_40, l_41, l_48, l_56, l_57, l_59, l_60, l_61, l_62, l_63, l_79, l_81, l_88, l_93, l_97, l_99, l_105, l_117, l_121, l_122, l_125, l_127, l_131, l_179, l_185, l_193, l_197, l_200, l_201, l_210, l_255, l_390, l_400, l_616, l_900, l_940, l_999, l_1000, l_1024, e_ltT, e_ltF, e_leT, e_leF, e_eqT, e_eqF, e_cl, e_in, e_gd, e_bd, e_ne, e_en, e_nlt, e_ltn, e_len, e_nle, e_nn, e_z0, e_z1, nI_add, pk_mul, e_sub, Nf_app, e_refl, e_reflN, reduceIte, ite_true_, ite_false_, hM, pX11_like_j50, e_or0, ih]
      · cases cl : lk g q k with
        | true =>
          have e : lp g q k = true := by unfold lp; rw [cl]; simp [c]
          rw [bs_t e] at ih
          rw [cl, b01_t] at hl
          simp (disch := omega) only [l_0, l_1, l_2, l_3, l_4, l_5, l_6, l_7, l_8, l_9, l_10, l_11, l_12, l_13, l_14, l_15, l_16, l_17, l_18, l_19, l_20, l_21, l_22, l_23, l_24, l_25, l_26, l_27, l_28, l_29, l_30, l_31, l_32, l_33, l_34, l_35, l_36, l_40, l_41, l_48, l_56, l_57, l_59, l_60, l_61, l_62, l_63, l_79, l_81, l_88, l_93, l_97, l_99, l_105, l_117, l_121, l_122, l_125, l_127, l_131, l_179, l_185, l_193, l_197, l_200, l_201, l_210, l_255, l_390, l_400, l_616, l_900, l_940, l_999, l_1000, l_1024, e_ltT, e_ltF, e_leT, e_leF, e_eqT, e_eqF, e_cl, e_in, e_gd, e_bd, e_ne, e_en, e_nlt, e_ltn, e_len, e_nle, e_nn, e_z0, e_z1, nI_add, pk_mul, e_sub, Nf_app, e_refl, e_reflN, reduceIte, ite_true_, ite_false_, hM, hl, e_or, e_shl, ih]
        | false =>
          have e : lp g q k = false := by unfold lp; rw [cl]; simp
          rw [bs_f e] at ih
          rw [cl, b01_f] at hl
          simp (disch := omega) only [l_0, l_1, l_2, l_3, l_4, l_5, l_6, l_7, l_8, l_9, l_10, l_11, l_12, l_13, l_14, l_15, l_16, l_17, l_18, l_19, l_20, l_21, l_22, l_23, l_24, l_25, l_26, l_27, l_28, l_29, l_30, l_31, l_32, l_33, l_34, l_35, l_36, l_40, l_41, l_48, l_56, l_57, l_59, l_60, l_61, l_62, l_63, l_79, l_81, l_88, l_93, l_97, l_99, l_105, l_117, l_121, l_122, l_125, l_127, l_131, l_179, l_185, l_193, l_197, l_200, l_201, l_210, l_255, l_390, l_400, l_616, l_900, l_940, l_999, l_1000, l_1024, e_ltT, e_ltF, e_leT, e_leF, e_eqT, e_eqF, e_cl, e_in, e_gd, e_bd, e_ne, e_en, e_nlt, e_ltn, e_len, e_nle, e_nn, e_z0, e_z1, nI_add, pk_mul, e_sub, Nf_app, e_refl, e_reflN, reduceIte, ite_true_, ite_false_, hM, hl, pX11_like_j50, e_or0, ih]
theorem c_likes (hQ : WQ g) (hW : WS N g) (hR : QR V2 g) (hS : SR V g) {q : Nat} (hq : q < 6) : ∀ (f k : Nat), k ≤ g 1 → g 1 - k < f → pX10_like_l14 V0 V2 V (nI q) f (nI (bs (lp g q) k)) (nI k) = some (nI (bs (lp g q) (g 1)))
  | 0, _, _, h => by omega
  | f + 1, k, h1, h2 => by
    have g1 := w_g1 hQ
    rw [pX10_like_l14]
    by_cases hz : k = g 1
    · simp (disch := omega) only [l_0, l_1, l_2, l_3, l_4, l_5, l_6, l_7, l_8, l_9, l_10, l_11, l_12, l_13, l_14, l_15, l_16, l_17, l_18, l_19, l_20, l_21, l_22, l_23, l_24, l_25, l_26, l_27, l_28, l_29, l_30, l_31, l_32, l_33, l_34, l_35, l_36, l_40, l_41, l_48, l_56, l_57, l_59, l_60, l_61, l_62, l_63, l_79, l_81, l_88, l_93, l_97, l_99, l_105, l_117, l_121, l_122, l_125, l_127, l_131, l_179, l_185, l_193, l_197, l_200, l_201, l_210, l_255, l_390, l_400, l_616, l_900, l_940, l_999, l_1000, l_1024, e_ltT, e_ltF, e_leT, e_leF, e_eqT, e_eqF, e_cl, e_in, e_gd, e_bd, e_ne, e_en, e_nlt, e_ltn, e_len, e_nle, e_nn, e_z0, e_z1, nI_add, pk_mul, e_sub, Nf_app, e_refl, e_reflN, reduceIte, ite_true_, ite_false_, q_4 hR]
      rw [hz]
    · have ih := c_likes hQ hW hR hS hq f (k + 1) (by omega) (by omega)
      have hl := c_like hQ hW hS hq (r := k) (by omega)
      by_cases c : k = q
      · have e : lp g q k = false := by unfold lp; simp [c]
        rw [bs_f e] at ih
        simp (disch := omega) only [l_0, l_1, l_2, l_3, l_4, l_5, l_6, l_7, l_8, l_9, l_10, l_11, l_12, l_13, l_14, l_15, l_16, l_17, l_18, l_19, l_20, l_21, l_22, l_23, l_24, l_25, l_26, l_27, l_28, l_29, l_30, l_31, l_32, l_33, l_34, l_35, l_36, l_40, l_41, l_48, l_56, l_57, l_59, l_60, l_61, l_62, l_63, l_79, l_81, l_88, l_93, l_97, l_99, l_105, l_117, l_121, l_122, l_125, l_127, l_131, l_179, l_185, l_193, l_197, l_200, l_201, l_210, l_255, l_390, l_400, l_616, l_900, l_940, l_999, l_1000, l_1024, e_ltT, e_ltF, e_leT, e_leF, e_eqT, e_eqF, e_cl, e_in, e_gd, e_bd, e_ne, e_en, e_nlt, e_ltn, e_len, e_nle, e_nn, e_z0, e_z1, nI_add, pk_mul, e_sub, Nf_app, e_refl, e_reflN, reduceIte, ite_true_, ite_false_, q_4 hR, ih]
      · cases cl : lk g q k with
        | true =>
          have e : lp g q k = true := by unfold lp; rw [cl]; simp [c]
          rw [bs_t e] at ih
          rw [cl, b01_t] at hl
          simp (disch := omega) only [l_0, l_1, l_2, l_3, l_4, l_5, l_6, l_7, l_8, l_9, l_10, l_11, l_12, l_13, l_14, l_15, l_16, l_17, l_18, l_19, l_20, l_21, l_22, l_23, l_24, l_25, l_26, l_27, l_28, l_29, l_30, l_31, l_32, l_33, l_34, l_35, l_36, l_40, l_41, l_48, l_56, l_57, l_59, l_60, l_61, l_62, l_63, l_79, l_81, l_88, l_93, l_97, l_99, l_105, l_117, l_121, l_122, l_125, l_127, l_131, l_179, l_185, l_193, l_197, l_200, l_201, l_210, l_255, l_390, l_400, l_616, l_900, l_940, l_999, l_1000, l_1024, e_ltT, e_ltF, e_leT, e_leF, e_eqT, e_eqF, e_cl, e_in, e_gd, e_bd, e_ne, e_en, e_nlt, e_ltn, e_len, e_nle, e_nn, e_z0, e_z1, nI_add, pk_mul, e_sub, Nf_app, e_refl, e_reflN, reduceIte, ite_true_, ite_false_, q_4 hR, hl, e_or, e_shl, ih]
        | false =>
          have e : lp g q k = false := by unfold lp; rw [cl]; simp
          rw [bs_f e] at ih
          rw [cl, b01_f] at hl
          simp (disch := omega) only [l_0, l_1, l_2, l_3, l_4, l_5, l_6, l_7, l_8, l_9, l_10, l_11, l_12, l_13, l_14, l_15, l_16, l_17, l_18, l_19, l_20, l_21, l_22, l_23, l_24, l_25, l_26, l_27, l_28, l_29, l_30, l_31, l_32, l_33, l_34, l_35, l_36, l_40, l_41, l_48, l_56, l_57, l_59, l_60, l_61, l_62, l_63, l_79, l_81, l_88, l_93, l_97, l_99, l_105, l_117, l_121, l_122, l_125, l_127, l_131, l_179, l_185, l_193, l_197, l_200, l_201, l_210, l_255, l_390, l_400, l_616, l_900, l_940, l_999, l_1000, l_1024, e_ltT, e_ltF, e_leT, e_leF, e_eqT, e_eqF, e_cl, e_in, e_gd, e_bd, e_ne, e_en, e_nlt, e_ltn, e_len, e_nle, e_nn, e_z0, e_z1, nI_add, pk_mul, e_sub, Nf_app, e_refl, e_reflN, reduceIte, ite_true_, ite_false_, q_4 hR, hl, ih]
/-! the hardest -/
def hd (g : Nat → Nat) : Nat → Option Nat
  | 0 => none
  | k + 1 => match hd g k with
    | none => some k
    | some b => if hs g b < hs g k then some k else some b
theorem hd_lt (g : Nat → Nat) : ∀ (k b : Nat), hd g k = some b → b < k
  | 0, b, h => by cases h
  | k + 1, b, h => by
    rw [hd] at h
    cases c : hd g k with
    | none => rw [c] at h; cases h; omega
    | some b' =>
      rw [c] at h
      have := hd_lt g k b' c
      simp only at h
      split at h <;> cases h <;> omega
def hdm (g : Nat → Nat) : Option Nat → Int32
  | none => -nI 1
  | some b => nI (hs g b)
theorem r_hard (hQ : WQ g) (hW : WS N g) (hM : oA M 6 = Nf g) : ∀ (f k : Nat), k ≤ g 1 → g 1 - k < f → pX11_hardest_l9 M f (oN (hd g k)) (nI k) = some (oN (hd g (g 1)))
  | 0, _, _, h => by omega
  | f + 1, k, h1, h2 => by
    have g1 := w_g1 hQ
    rw [pX11_hardest_l9]
    by_cases hz : k = g 1
    · simp (disch := omega) only [l_0, l_1, l_2, l_3, l_4, l_5, l_6, l_7, l_8, l_9, l_10, l_11, l_12, l_13, l_14, l_15, l_16, l_17, l_18, l_19, l_20, l_21, l_22, l_23, l_24, l_25, l_26, l_27, l_28, l_29, l_30, l_31, l_32, l_33, l_34, l_35, l_36, l_40, l_41, l_48, l_56, l_57, l_59, l_60, l_61, l_62, l_63, l_79, l_81, l_88, l_93, l_97, l_99, l_105, l_117, l_121, l_122, l_125, l_127, l_131, l_179, l_185, l_193, l_197, l_200, l_201, l_210, l_255, l_390, l_400, l_616, l_900, l_940, l_999, l_1000, l_1024, e_ltT, e_ltF, e_leT, e_leF, e_eqT, e_eqF, e_cl, e_in, e_gd, e_bd, e_ne, e_en, e_nlt, e_ltn, e_len, e_nle, e_nn, e_z0, e_z1, nI_add, pk_mul, e_sub, Nf_app, e_refl, e_reflN, reduceIte, ite_true_, ite_false_, hM]
      rw [hz]
    · have ih := r_hard hQ hW hM f (k + 1) (by omega) (by omega)
      have h3 := r_holds hQ hW hM (q := k) (by omega)
      have h4 := hs_le hQ hW (q := k) (by omega)
      rw [hd] at ih
      cases c : hd g k with
      | none =>
        rw [c] at ih
        have ih : pX11_hardest_l9 M f (nI k) (nI (k + 1)) = some (oN (hd g (g 1))) := ih
        have oo : oN none = -nI 1 := rfl
        simp (disch := omega) only [l_0, l_1, l_2, l_3, l_4, l_5, l_6, l_7, l_8, l_9, l_10, l_11, l_12, l_13, l_14, l_15, l_16, l_17, l_18, l_19, l_20, l_21, l_22, l_23, l_24, l_25, l_26, l_27, l_28, l_29, l_30, l_31, l_32, l_33, l_34, l_35, l_36, l_40, l_41, l_48, l_56, l_57, l_59, l_60, l_61, l_62, l_63, l_79, l_81, l_88, l_93, l_97, l_99, l_105, l_117, l_121, l_122, l_125, l_127, l_131, l_179, l_185, l_193, l_197, l_200, l_201, l_210, l_255, l_390, l_400, l_616, l_900, l_940, l_999, l_1000, l_1024, e_ltT, e_ltF, e_leT, e_leF, e_eqT, e_eqF, e_cl, e_in, e_gd, e_bd, e_ne, e_en, e_nlt, e_ltn, e_len, e_nle, e_nn, e_z0, e_z1, nI_add, pk_mul, e_sub, Nf_app, e_refl, e_reflN, reduceIte, ite_true_, ite_false_, hM, oo, ih]
      | some b =>
        have := hd_lt g k b c
        have h5 := r_holds hQ hW hM (q := b) (by omega)
        have h6 := hs_le hQ hW (q := b) (by omega)
        rw [c] at ih
        simp only at ih
        by_cases c2 : hs g b < hs g k
        · rw [if_pos c2, oN] at ih
          rw [oN]
          simp (disch := omega) only [l_0, l_1, l_2, l_3, l_4, l_5, l_6, l_7, l_8, l_9, l_10, l_11, l_12, l_13, l_14, l_15, l_16, l_17, l_18, l_19, l_20, l_21, l_22, l_23, l_24, l_25, l_26, l_27, l_28, l_29, l_30, l_31, l_32, l_33, l_34, l_35, l_36, l_40, l_41, l_48, l_56, l_57, l_59, l_60, l_61, l_62, l_63, l_79, l_81, l_88, l_93, l_97, l_99, l_105, l_117, l_121, l_122, l_125, l_127, l_131, l_179, l_185, l_193, l_197, l_200, l_201, l_210, l_255, l_390, l_400, l_616, l_900, l_940, l_999, l_1000, l_1024, e_ltT, e_ltF, e_leT, e_leF, e_eqT, e_eqF, e_cl, e_in, e_gd, e_bd, e_ne, e_en, e_nlt, e_ltn, e_len, e_nle, e_nn, e_z0, e_z1, nI_add, pk_mul, e_sub, Nf_app, e_refl, e_reflN, reduceIte, ite_true_, ite_false_, hM, h3, h5, ih]
        · rw [if_neg c2, oN] at ih
          rw [oN]
          simp (disch := omega) only [l_0, l_1, l_2, l_3, l_4, l_5, l_6, l_7, l_8, l_9, l_10, l_11, l_12, l_13, l_14, l_15, l_16, l_17, l_18, l_19, l_20, l_21, l_22, l_23, l_24, l_25, l_26, l_27, l_28, l_29, l_30, l_31, l_32, l_33, l_34, l_35, l_36, l_40, l_41, l_48, l_56, l_57, l_59, l_60, l_61, l_62, l_63, l_79, l_81, l_88, l_93, l_97, l_99, l_105, l_117, l_121, l_122, l_125, l_127, l_131, l_179, l_185, l_193, l_197, l_200, l_201, l_210, l_255, l_390, l_400, l_616, l_900, l_940, l_999, l_1000, l_1024, e_ltT, e_ltF, e_leT, e_leF, e_eqT, e_eqF, e_cl, e_in, e_gd, e_bd, e_ne, e_en, e_nlt, e_ltn, e_len, e_nle, e_nn, e_z0, e_z1, nI_add, pk_mul, e_sub, Nf_app, e_refl, e_reflN, reduceIte, ite_true_, ite_false_, hM, h3, h5, ih]
theorem c_hard (hQ : WQ g) (hW : WS N g) (hR : QR V2 g) (hS : SR V g) : ∀ (f k : Nat), k ≤ g 1 → g 1 - k < f → pX10_hardest_l6 V0 V2 V f (oN (hd g k)) (hdm g (hd g k)) (nI k) = some (oN (hd g (g 1)))
  | 0, _, _, h => by omega
  | f + 1, k, h1, h2 => by
    have g1 := w_g1 hQ
    rw [pX10_hardest_l6]
    by_cases hz : k = g 1
    · simp (disch := omega) only [l_0, l_1, l_2, l_3, l_4, l_5, l_6, l_7, l_8, l_9, l_10, l_11, l_12, l_13, l_14, l_15, l_16, l_17, l_18, l_19, l_20, l_21, l_22, l_23, l_24, l_25, l_26, l_27, l_28, l_29, l_30, l_31, l_32, l_33, l_34, l_35, l_36, l_40, l_41, l_48, l_56, l_57, l_59, l_60, l_61, l_62, l_63, l_79, l_81, l_88, l_93, l_97, l_99, l_105, l_117, l_121, l_122, l_125, l_127, l_131, l_179, l_185, l_193, l_197, l_200, l_201, l_210, l_255, l_390, l_400, l_616, l_900, l_940, l_999, l_1000, l_1024, e_ltT, e_ltF, e_leT, e_leF, e_eqT, e_eqF, e_cl, e_in, e_gd, e_bd, e_ne, e_en, e_nlt, e_ltn, e_len, e_nle, e_nn, e_z0, e_z1, nI_add, pk_mul, e_sub, Nf_app, e_refl, e_reflN, reduceIte, ite_true_, ite_false_, q_4 hR]
      rw [hz]
    · have ih := c_hard hQ hW hR hS f (k + 1) (by omega) (by omega)
      have h3 := c_holds hQ hW hR hS (p := k) (by omega)
      have h4 := hs_le hQ hW (q := k) (by omega)
      rw [hd] at ih
      cases c : hd g k with
      | none =>
        rw [c] at ih
        have ih : pX10_hardest_l6 V0 V2 V f (nI k) (nI (hs g k)) (nI (k + 1)) = some (oN (hd g (g 1))) := ih
        have oo : oN none = -nI 1 := rfl
        have o2 : hdm g none = -nI 1 := rfl
        simp (disch := omega) only [l_0, l_1, l_2, l_3, l_4, l_5, l_6, l_7, l_8, l_9, l_10, l_11, l_12, l_13, l_14, l_15, l_16, l_17, l_18, l_19, l_20, l_21, l_22, l_23, l_24, l_25, l_26, l_27, l_28, l_29, l_30, l_31, l_32, l_33, l_34, l_35, l_36, l_40, l_41, l_48, l_56, l_57, l_59, l_60, l_61, l_62, l_63, l_79, l_81, l_88, l_93, l_97, l_99, l_105, l_117, l_121, l_122, l_125, l_127, l_131, l_179, l_185, l_193, l_197, l_200, l_201, l_210, l_255, l_390, l_400, l_616, l_900, l_940, l_999, l_1000, l_1024, e_ltT, e_ltF, e_leT, e_leF, e_eqT, e_eqF, e_cl, e_in, e_gd, e_bd, e_ne, e_en, e_nlt, e_ltn, e_len, e_nle, e_nn, e_z0, e_z1, nI_add, pk_mul, e_sub, Nf_app, e_refl, e_reflN, reduceIte, ite_true_, ite_false_, q_4 hR, h3, oo, o2, ih]
      | some b =>
        have := hd_lt g k b c
        have h6 := hs_le hQ hW (q := b) (by omega)
        rw [c] at ih
        simp only at ih
        by_cases c2 : hs g b < hs g k
        · rw [if_pos c2, oN, hdm] at ih
          rw [oN, hdm]
          simp (disch := omega) only [l_0, l_1, l_2, l_3, l_4, l_5, l_6, l_7, l_8, l_9, l_10, l_11, l_12, l_13, l_14, l_15, l_16, l_17, l_18, l_19, l_20, l_21, l_22, l_23, l_24, l_25, l_26, l_27, l_28, l_29, l_30, l_31, l_32, l_33, l_34, l_35, l_36, l_40, l_41, l_48, l_56, l_57, l_59, l_60, l_61, l_62, l_63, l_79, l_81, l_88, l_93, l_97, l_99, l_105, l_117, l_121, l_122, l_125, l_127, l_131, l_179, l_185, l_193, l_197, l_200, l_201, l_210, l_255, l_390, l_400, l_616, l_900, l_940, l_999, l_1000, l_1024, e_ltT, e_ltF, e_leT, e_leF, e_eqT, e_eqF, e_cl, e_in, e_gd, e_bd, e_ne, e_en, e_nlt, e_ltn, e_len, e_nle, e_nn, e_z0, e_z1, nI_add, pk_mul, e_sub, Nf_app, e_refl, e_reflN, reduceIte, ite_true_, ite_false_, q_4 hR, h3, ih]
        · rw [if_neg c2, oN, hdm] at ih
          rw [oN, hdm]
          simp (disch := omega) only [l_0, l_1, l_2, l_3, l_4, l_5, l_6, l_7, l_8, l_9, l_10, l_11, l_12, l_13, l_14, l_15, l_16, l_17, l_18, l_19, l_20, l_21, l_22, l_23, l_24, l_25, l_26, l_27, l_28, l_29, l_30, l_31, l_32, l_33, l_34, l_35, l_36, l_40, l_41, l_48, l_56, l_57, l_59, l_60, l_61, l_62, l_63, l_79, l_81, l_88, l_93, l_97, l_99, l_105, l_117, l_121, l_122, l_125, l_127, l_131, l_179, l_185, l_193, l_197, l_200, l_201, l_210, l_255, l_390, l_400, l_616, l_900, l_940, l_999, l_1000, l_1024, e_ltT, e_ltF, e_leT, e_leF, e_eqT, e_eqF, e_cl, e_in, e_gd, e_bd, e_ne, e_en, e_nlt, e_ltn, e_len, e_nle, e_nn, e_z0, e_z1, nI_add, pk_mul, e_sub, Nf_app, e_refl, e_reflN, reduceIte, ite_true_, ite_false_, q_4 hR, h3, ih]
/-! the mean -/
theorem r_mean_z (S : Ob) (l1 l2 : Int32) : ∀ (n : Nat) (x y : Int32), pX11_mean_l56 S l1 l2 n x y = pX11_mean_l56 Z0 0 0 n x y
  | 0, _, _ => rfl
  | n + 1, x, y => by rw [pX11_mean_l56, pX11_mean_l56, r_mean_z S l1 l2 n]
theorem c_mean_z (S T U : Ob) (l2 : Int32) : ∀ (n : Nat) (x y z : Int32), pX10_mean_l73 S T U l2 n x y z = pX10_mean_l73 Z0 Z0 Z0 0 n x y z
  | 0, _, _, _ => rfl
  | n + 1, x, y, z => by rw [pX10_mean_l73, pX10_mean_l73]; simp only [c_mean_z S T U l2 n]
set_option maxRecDepth 10000 in
theorem r_meanA : ∀ a, a < 73 → ∀ k, k < 9 → 0 < k → pX11_mean_l56 Z0 0 0 fu (nI k) (nI a) = some (nI (Nat.gcd k a)) := by decide +kernel
set_option maxRecDepth 10000 in
theorem c_meanA : ∀ a, a < 73 → ∀ k, k < 9 → 0 < k → pX10_mean_l73 Z0 Z0 Z0 0 fu (nI a) (nI k) (nI k) = some (nI (a / Nat.gcd k a), nI (k / Nat.gcd k a)) := by decide +kernel
end
