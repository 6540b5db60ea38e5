/-! whose hair it is by what lies outside -/
def TB (V1 M : Ob) (tb : Nat → Nat) : Prop := (∀ i, oA V1 0 i = nI (tb i)) ∧ (∀ i, oA M 1 i &&& nI 255 = nI (tb i)) ∧ ∀ i, tb i < 256
def fo (g : Nat → Nat) (q k : Nat) : Nat := if k < g (125 + q) then hr g q (g (125 + q) - 1 - k) + 1 else 0
def i2 (c : Nat) : Int32 := if c = 0 then -nI 1 else nI (c - 1)
theorem i2_eq {a b : Nat} (ha : a < 1000) (hb : b < 1000) : (i2 a = i2 b) = (a = b) := by
  unfold i2
  by_cases c : a = 0
  · by_cases d : b = 0
    · rw [if_pos c, if_pos d, c, d]; simp
    · rw [if_pos c, if_neg d, e_en (by omega)]; exact (eq_false (by omega)).symm
  · by_cases d : b = 0
    · rw [if_neg c, if_pos d, e_ne (by omega)]; exact (eq_false (by omega)).symm
    · rw [if_neg c, if_neg d, e_eq (by omega) (by omega)]; exact propext (by omega)
theorem i2_s (c : Nat) : i2 c + nI 1 = i2 (c + 1) := by
  unfold i2
  by_cases h : c = 0
  · subst h; rw [if_pos rfl, if_neg (by omega), e_nn]
  · rw [if_neg h, if_neg (by omega), nI_add]; congr 1; omega
def mx (f : Nat → Nat) : Nat → Nat
  | 0 => 0
  | n + 1 => if mx f n ≤ f n then f n else mx f n
theorem mx_ub (f : Nat → Nat) {i : Nat} : ∀ {n : Nat}, i < n → f i ≤ mx f n
  | 0, h => by omega
  | n + 1, h => by
    rw [mx]
    by_cases c : i = n
    · subst c; split <;> omega
    · have := mx_ub f (i := i) (n := n) (by omega)
      split <;> omega
theorem mx_at (f : Nat → Nat) : ∀ n, mx f n = 0 ∨ ∃ i, i < n ∧ mx f n = f i
  | 0 => Or.inl rfl
  | n + 1 => by
    rw [mx]
    split
    · exact Or.inr ⟨n, by omega, rfl⟩
    · rcases mx_at f n with h | ⟨i, h1, h2⟩
      · exact Or.inl h
      · exact Or.inr ⟨i, by omega, h2⟩
theorem mx_le {f h : Nat → Nat} {n m : Nat} (H : ∀ i, i < n → f i = 0 ∨ ∃ j, j < m ∧ f i ≤ h j) : mx f n ≤ mx h m := by
  rcases mx_at f n with e | ⟨i, h1, h2⟩
  · omega
  · rcases H i h1 with e | ⟨j, h3, h4⟩
    · omega
    · have := mx_ub h (i := j) (n := m) h3; omega
def cq (g : Nat → Nat) (s k v : Nat) : Nat → Nat
  | 0 => 0
  | q + 1 => cq g s k v q + (if s.testBit q = true ∧ fo g q k = v then 1 else 0)
theorem cq_le (g : Nat → Nat) (s k v : Nat) : ∀ q, cq g s k v q ≤ q
  | 0 => Nat.le_refl _
  | q + 1 => by have := cq_le g s k v q; rw [cq]; split <;> omega
theorem cq_pos {g : Nat → Nat} {s k v : Nat} : ∀ {n : Nat}, 0 < cq g s k v n → ∃ q, q < n ∧ s.testBit q = true ∧ fo g q k = v
  | 0, h => by rw [cq] at h; omega
  | n + 1, h => by
    rw [cq] at h
    by_cases c : s.testBit n = true ∧ fo g n k = v
    · exact ⟨n, by omega, c⟩
    · rw [if_neg c] at h
      obtain ⟨q, a, b⟩ := cq_pos (n := n) (by omega)
      exact ⟨q, by omega, b⟩
def cp (g : Nat → Nat) (s k p : Nat) : Nat := if s.testBit p = true then cq g s k (fo g p k) (g 1) else 0
def lv (g : Nat → Nat) (s k : Nat) : Nat := mx (fun v => cq g s k v (g 1)) (g 0 + 1)
def al (g : Nat → Nat) (s : Nat) : Nat → Nat
  | 0 => 0
  | k + 1 => if lv g s (k + 1) < lv g s (al g s k) then k + 1 else al g s k
theorem al_le (g : Nat → Nat) (s : Nat) : ∀ k, al g s k ≤ k
  | 0 => Nat.le_refl _
  | k + 1 => by have := al_le g s k; rw [al]; split <;> omega
def ft (g tb : Nat → Nat) (z q : Nat) : Bool := decide (z ≤ g (125 + q)) && ab (fun i => hr g q (g (125 + q) - z + i)) tb z
section
variable {N : Nat} {g tb : Nat → Nat} {M V V1 V2 V8 V0 : Ob}
theorem fo_le (hQ : WQ g) (hW : WS N g) {q : Nat} (hq : q < 6) (k : Nat) : fo g q k ≤ g 0 := by
  unfold fo
  split
  · have := w_th hW hq (k := g (125 + q) - 1 - k) (by omega)
    rw [hr_app]; omega
  · omega
theorem r_from2 (hW : WS N g) (hM : oA M 6 = Nf g) {q k : Nat} (hq : q < 6) (hk : k < 1000) : pX11_fromOutside M (nI q) (nI k) = some (i2 (fo g q k)) := by
  unfold fo
  by_cases c : k < g (125 + q)
  · rw [if_pos c, r_from hW hM hq c, i2, if_neg (by omega)]; rfl
  · rw [if_neg c, r_from_out hW hM hq (by omega) hk]; rfl
theorem negs : ∀ k, k < 8 → (-nI 1 - nI k < nI 0) = True := by decide
theorem c_from2 (hW : WS N g) (hS : SR V g) {q k : Nat} (hq : q < 6) (hk : k < 8) : pX6_layerFromOutside V (nI q) (nI k) = some (i2 (fo g q k)) := by
  have hL := w_long hW hq
  unfold pX6_layerFromOutside fo
  by_cases c : k < g (125 + q)
  · rw [if_pos c, i2, if_neg (by omega), hr_app]
    simp (disch := omega) only [l_0, l_1, l_2, l_3, l_4, l_5, l_6, l_7, l_8, l_9, l_10, l_11, l_12, l_13, l_14, l_15, l_16, l_17, l_18, l_19, l_20, l_21, l_22, l_23, l_24, l_25, l_26, l_27, l_28, l_29, l_30, l_31, l_32, l_33, l_34, l_35, l_36, l_40, l_41, l_48, l_56, l_57, l_59, l_60, l_61, l_62, l_63, l_79, l_81, l_88, l_93, l_97, l_99, l_105, l_117, l_121, l_122, l_125, l_127, l_131, l_179, l_185, l_193, l_197, l_200, l_201, l_210, l_255, l_390, l_400, l_616, l_900, l_940, l_999, l_1000, l_1024, e_ltT, e_ltF, e_leT, e_leF, e_eqT, e_eqF, e_cl, e_in, e_gd, e_bd, e_ne, e_en, e_nlt, e_ltn, e_len, e_nle, e_nn, e_z0, e_z1, nI_add, pk_mul, e_sub, Nf_app, e_refl, e_reflN, reduceIte, ite_true_, ite_false_, s_1 hS, c_layer hW hS hq (k := g (125 + q) - 1 - k)]
    rfl
  · rw [if_neg c]
    have neg : ∀ x : Int32, (x < nI 0) = True → pX6_layerAt V (nI q) x = some (-nI 1) := fun x hx => by
      unfold pX6_layerAt
      simp only [l_0, hx, reduceIte, l_1]
    by_cases c0 : g (125 + q) = 0
    · have e := neg (-nI 1 - nI k) (negs k hk)
      simp (disch := omega) only [l_0, l_1, l_2, l_3, l_4, l_5, l_6, l_7, l_8, l_9, l_10, l_11, l_12, l_13, l_14, l_15, l_16, l_17, l_18, l_19, l_20, l_21, l_22, l_23, l_24, l_25, l_26, l_27, l_28, l_29, l_30, l_31, l_32, l_33, l_34, l_35, l_36, l_40, l_41, l_48, l_56, l_57, l_59, l_60, l_61, l_62, l_63, l_79, l_81, l_88, l_93, l_97, l_99, l_105, l_117, l_121, l_122, l_125, l_127, l_131, l_179, l_185, l_193, l_197, l_200, l_201, l_210, l_255, l_390, l_400, l_616, l_900, l_940, l_999, l_1000, l_1024, e_ltT, e_ltF, e_leT, e_leF, e_eqT, e_eqF, e_cl, e_in, e_gd, e_bd, e_ne, e_en, e_nlt, e_ltn, e_len, e_nle, e_nn, e_z0, e_z1, nI_add, pk_mul, e_sub, Nf_app, e_refl, e_reflN, reduceIte, ite_true_, ite_false_, s_1 hS, c0, e_0m1, e]
      rfl
    · have e := neg (nI (g (125 + q) - 1) - nI k) (eq_true (pk_sneg (by omega) (by omega)))
      simp (disch := omega) only [l_0, l_1, l_2, l_3, l_4, l_5, l_6, l_7, l_8, l_9, l_10, l_11, l_12, l_13, l_14, l_15, l_16, l_17, l_18, l_19, l_20, l_21, l_22, l_23, l_24, l_25, l_26, l_27, l_28, l_29, l_30, l_31, l_32, l_33, l_34, l_35, l_36, l_40, l_41, l_48, l_56, l_57, l_59, l_60, l_61, l_62, l_63, l_79, l_81, l_88, l_93, l_97, l_99, l_105, l_117, l_121, l_122, l_125, l_127, l_131, l_179, l_185, l_193, l_197, l_200, l_201, l_210, l_255, l_390, l_400, l_616, l_900, l_940, l_999, l_1000, l_1024, e_ltT, e_ltF, e_leT, e_leF, e_eqT, e_eqF, e_cl, e_in, e_gd, e_bd, e_ne, e_en, e_nlt, e_ltn, e_len, e_nle, e_nn, e_z0, e_z1, nI_add, pk_mul, e_sub, Nf_app, e_refl, e_reflN, reduceIte, ite_true_, ite_false_, s_1 hS, e]
      rfl
theorem r_fit_l (hQ : WQ g) (hW : WS N g) (hM : oA M 6 = Nf g) (hT : TB V1 M tb) {q z : Nat} (hq : q < 6) (hz : oI M 3 = nI z) (hzl : z ≤ g (125 + q)) : ∀ (f i : Nat), i ≤ z → z - i < f → ab (fun i => hr g q (g (125 + q) - z + i)) tb i = true → pX11_isFit_l24 M (nI q) f (nI 1) (nI i) = some (nI (b01 (ab (fun i => hr g q (g (125 + q) - z + i)) tb z)))
  | 0, _, _, h, _ => by omega
  | f + 1, i, h1, h2, h3 => by
    have hL := w_long hW hq
    have hg := w_g0 hQ
    rw [pX11_isFit_l24]
    by_cases c : i = z
    · simp (disch := omega) only [l_0, l_1, l_2, l_3, l_4, l_5, l_6, l_7, l_8, l_9, l_10, l_11, l_12, l_13, l_14, l_15, l_16, l_17, l_18, l_19, l_20, l_21, l_22, l_23, l_24, l_25, l_26, l_27, l_28, l_29, l_30, l_31, l_32, l_33, l_34, l_35, l_36, l_40, l_41, l_48, l_56, l_57, l_59, l_60, l_61, l_62, l_63, l_79, l_81, l_88, l_93, l_97, l_99, l_105, l_117, l_121, l_122, l_125, l_127, l_131, l_179, l_185, l_193, l_197, l_200, l_201, l_210, l_255, l_390, l_400, l_616, l_900, l_940, l_999, l_1000, l_1024, e_ltT, e_ltF, e_leT, e_leF, e_eqT, e_eqF, e_cl, e_in, e_gd, e_bd, e_ne, e_en, e_nlt, e_ltn, e_len, e_nle, e_nn, e_z0, e_z1, nI_add, pk_mul, e_sub, Nf_app, e_refl, e_reflN, reduceIte, ite_true_, ite_false_, hz]
      rw [c] at h3
      rw [h3]; rfl
    · have o1 : pX11_octet M (nI i) = some (nI (tb i)) := by
        unfold pX11_octet
        simp (disch := omega) only [l_0, l_1, l_2, l_3, l_4, l_5, l_6, l_7, l_8, l_9, l_10, l_11, l_12, l_13, l_14, l_15, l_16, l_17, l_18, l_19, l_20, l_21, l_22, l_23, l_24, l_25, l_26, l_27, l_28, l_29, l_30, l_31, l_32, l_33, l_34, l_35, l_36, l_40, l_41, l_48, l_56, l_57, l_59, l_60, l_61, l_62, l_63, l_79, l_81, l_88, l_93, l_97, l_99, l_105, l_117, l_121, l_122, l_125, l_127, l_131, l_179, l_185, l_193, l_197, l_200, l_201, l_210, l_255, l_390, l_400, l_616, l_900, l_940, l_999, l_1000, l_1024, e_ltT, e_ltF, e_leT, e_leF, e_eqT, e_eqF, e_cl, e_in, e_gd, e_bd, e_ne, e_en, e_nlt, e_ltn, e_len, e_nle, e_nn, e_z0, e_z1, nI_add, pk_mul, e_sub, Nf_app, e_refl, e_reflN, reduceIte, ite_true_, ite_false_, hT.2.1]
      have f1 := r_from hW hM hq (k := z - 1 - i) (by omega)
      rw [show g (125 + q) - 1 - (z - 1 - i) = g (125 + q) - z + i by omega] at f1
      have t1 := w_th hW hq (k := g (125 + q) - z + i) (by omega)
      have t2 := hT.2.2 i
      by_cases hv : g (131 + 8 * q + (g (125 + q) - z + i)) = tb i
      · have ih := r_fit_l hQ hW hM hT hq hz hzl f (i + 1) (by omega) (by omega) (by rw [ab, h3]; simp only [hr_app, hv, decide_true, Bool.and_self])
        simp (disch := omega) only [l_0, l_1, l_2, l_3, l_4, l_5, l_6, l_7, l_8, l_9, l_10, l_11, l_12, l_13, l_14, l_15, l_16, l_17, l_18, l_19, l_20, l_21, l_22, l_23, l_24, l_25, l_26, l_27, l_28, l_29, l_30, l_31, l_32, l_33, l_34, l_35, l_36, l_40, l_41, l_48, l_56, l_57, l_59, l_60, l_61, l_62, l_63, l_79, l_81, l_88, l_93, l_97, l_99, l_105, l_117, l_121, l_122, l_125, l_127, l_131, l_179, l_185, l_193, l_197, l_200, l_201, l_210, l_255, l_390, l_400, l_616, l_900, l_940, l_999, l_1000, l_1024, e_ltT, e_ltF, e_leT, e_leF, e_eqT, e_eqF, e_cl, e_in, e_gd, e_bd, e_ne, e_en, e_nlt, e_ltn, e_len, e_nle, e_nn, e_z0, e_z1, nI_add, pk_mul, e_sub, Nf_app, e_refl, e_reflN, reduceIte, ite_true_, ite_false_, hz, f1, o1, ih]
      · have e0 : pX11_isFit_l24 M (nI q) f (nI 0) (nI (i + 1)) = some (nI 0) := by
          obtain ⟨f', rfl⟩ : ∃ f', f = f' + 1 := ⟨f - 1, by omega⟩
          rw [pX11_isFit_l24]
          by_cases c2 : z ≤ i + 1
          · simp (disch := omega) only [l_0, l_1, l_2, l_3, l_4, l_5, l_6, l_7, l_8, l_9, l_10, l_11, l_12, l_13, l_14, l_15, l_16, l_17, l_18, l_19, l_20, l_21, l_22, l_23, l_24, l_25, l_26, l_27, l_28, l_29, l_30, l_31, l_32, l_33, l_34, l_35, l_36, l_40, l_41, l_48, l_56, l_57, l_59, l_60, l_61, l_62, l_63, l_79, l_81, l_88, l_93, l_97, l_99, l_105, l_117, l_121, l_122, l_125, l_127, l_131, l_179, l_185, l_193, l_197, l_200, l_201, l_210, l_255, l_390, l_400, l_616, l_900, l_940, l_999, l_1000, l_1024, e_ltT, e_ltF, e_leT, e_leF, e_eqT, e_eqF, e_cl, e_in, e_gd, e_bd, e_ne, e_en, e_nlt, e_ltn, e_len, e_nle, e_nn, e_z0, e_z1, nI_add, pk_mul, e_sub, Nf_app, e_refl, e_reflN, reduceIte, ite_true_, ite_false_, hz]
          · simp (disch := omega) only [l_0, l_1, l_2, l_3, l_4, l_5, l_6, l_7, l_8, l_9, l_10, l_11, l_12, l_13, l_14, l_15, l_16, l_17, l_18, l_19, l_20, l_21, l_22, l_23, l_24, l_25, l_26, l_27, l_28, l_29, l_30, l_31, l_32, l_33, l_34, l_35, l_36, l_40, l_41, l_48, l_56, l_57, l_59, l_60, l_61, l_62, l_63, l_79, l_81, l_88, l_93, l_97, l_99, l_105, l_117, l_121, l_122, l_125, l_127, l_131, l_179, l_185, l_193, l_197, l_200, l_201, l_210, l_255, l_390, l_400, l_616, l_900, l_940, l_999, l_1000, l_1024, e_ltT, e_ltF, e_leT, e_leF, e_eqT, e_eqF, e_cl, e_in, e_gd, e_bd, e_ne, e_en, e_nlt, e_ltn, e_len, e_nle, e_nn, e_z0, e_z1, nI_add, pk_mul, e_sub, Nf_app, e_refl, e_reflN, reduceIte, ite_true_, ite_false_, hz]
        simp (disch := omega) only [l_0, l_1, l_2, l_3, l_4, l_5, l_6, l_7, l_8, l_9, l_10, l_11, l_12, l_13, l_14, l_15, l_16, l_17, l_18, l_19, l_20, l_21, l_22, l_23, l_24, l_25, l_26, l_27, l_28, l_29, l_30, l_31, l_32, l_33, l_34, l_35, l_36, l_40, l_41, l_48, l_56, l_57, l_59, l_60, l_61, l_62, l_63, l_79, l_81, l_88, l_93, l_97, l_99, l_105, l_117, l_121, l_122, l_125, l_127, l_131, l_179, l_185, l_193, l_197, l_200, l_201, l_210, l_255, l_390, l_400, l_616, l_900, l_940, l_999, l_1000, l_1024, e_ltT, e_ltF, e_leT, e_leF, e_eqT, e_eqF, e_cl, e_in, e_gd, e_bd, e_ne, e_en, e_nlt, e_ltn, e_len, e_nle, e_nn, e_z0, e_z1, nI_add, pk_mul, e_sub, Nf_app, e_refl, e_reflN, reduceIte, ite_true_, ite_false_, hz, f1, o1, e0]
        rw [ab_not (k := i) (n := z) (by omega) (by rw [hr_app]; exact hv), b01_f]
theorem r_fit (hQ : WQ g) (hW : WS N g) (hM : oA M 6 = Nf g) (hT : TB V1 M tb) {q z : Nat} (hq : q < 6) (hz : oI M 3 = nI z) (hz8 : z ≤ 8) : pX11_isFit M (nI q) = some (nI (b01 (ft g tb z q))) := by
  have hL := w_long hW hq
  unfold pX11_isFit
  by_cases c : z ≤ g (125 + q)
  · have h := r_fit_l hQ hW hM hT hq hz c fu 0 (by omega) (by rw [fu_eq]; omega) rfl
    simp (disch := omega) only [l_0, l_1, l_2, l_3, l_4, l_5, l_6, l_7, l_8, l_9, l_10, l_11, l_12, l_13, l_14, l_15, l_16, l_17, l_18, l_19, l_20, l_21, l_22, l_23, l_24, l_25, l_26, l_27, l_28, l_29, l_30, l_31, l_32, l_33, l_34, l_35, l_36, l_40, l_41, l_48, l_56, l_57, l_59, l_60, l_61, l_62, l_63, l_79, l_81, l_88, l_93, l_97, l_99, l_105, l_117, l_121, l_122, l_125, l_127, l_131, l_179, l_185, l_193, l_197, l_200, l_201, l_210, l_255, l_390, l_400, l_616, l_900, l_940, l_999, l_1000, l_1024, e_ltT, e_ltF, e_leT, e_leF, e_eqT, e_eqF, e_cl, e_in, e_gd, e_bd, e_ne, e_en, e_nlt, e_ltn, e_len, e_nle, e_nn, e_z0, e_z1, nI_add, pk_mul, e_sub, Nf_app, e_refl, e_reflN, reduceIte, ite_true_, ite_false_, hM, hz, pX11_isFit_j21, h, b01_z]
    rw [ft, decide_eq_true c, Bool.true_and]
  · have h : pX11_isFit_l24 M (nI q) fu (nI 0) (nI 0) = some (nI 0) := by
      rw [fu_eq, pX11_isFit_l24]
      by_cases c2 : z ≤ 0
      · simp (disch := omega) only [l_0, l_1, l_2, l_3, l_4, l_5, l_6, l_7, l_8, l_9, l_10, l_11, l_12, l_13, l_14, l_15, l_16, l_17, l_18, l_19, l_20, l_21, l_22, l_23, l_24, l_25, l_26, l_27, l_28, l_29, l_30, l_31, l_32, l_33, l_34, l_35, l_36, l_40, l_41, l_48, l_56, l_57, l_59, l_60, l_61, l_62, l_63, l_79, l_81, l_88, l_93, l_97, l_99, l_105, l_117, l_121, l_122, l_125, l_127, l_131, l_179, l_185, l_193, l_197, l_200, l_201, l_210, l_255, l_390, l_400, l_616, l_900, l_940, l_999, l_1000, l_1024, e_ltT, e_ltF, e_leT, e_leF, e_eqT, e_eqF, e_cl, e_in, e_gd, e_bd, e_ne, e_en, e_nlt, e_ltn, e_len, e_nle, e_nn, e_z0, e_z1, nI_add, pk_mul, e_sub, Nf_app, e_refl, e_reflN, reduceIte, ite_true_, ite_false_, hz]
      · simp (disch := omega) only [l_0, l_1, l_2, l_3, l_4, l_5, l_6, l_7, l_8, l_9, l_10, l_11, l_12, l_13, l_14, l_15, l_16, l_17, l_18, l_19, l_20, l_21, l_22, l_23, l_24, l_25, l_26, l_27, l_28, l_29, l_30, l_31, l_32, l_33, l_34, l_35, l_36, l_40, l_41, l_48, l_56, l_57, l_59, l_60, l_61, l_62, l_63, l_79, l_81, l_88, l_93, l_97, l_99, l_105, l_117, l_121, l_122, l_125, l_127, l_131, l_179, l_185, l_193, l_197, l_200, l_201, l_210, l_255, l_390, l_400, l_616, l_900, l_940, l_999, l_1000, l_1024, e_ltT, e_ltF, e_leT, e_leF, e_eqT, e_eqF, e_cl, e_in, e_gd, e_bd, e_ne, e_en, e_nlt, e_ltn, e_len, e_nle, e_nn, e_z0, e_z1, nI_add, pk_mul, e_sub, Nf_app, e_refl, e_reflN, reduceIte, ite_true_, ite_false_, hz]
    simp (disch := omega) only [l_0, l_1, l_2, l_3, l_4, l_5, l_6, l_7, l_8, l_9, l_10, l_11, l_12, l_13, l_14, l_15, l_16, l_17, l_18, l_19, l_20, l_21, l_22, l_23, l_24, l_25, l_26, l_27, l_28, l_29, l_30, l_31, l_32, l_33, l_34, l_35, l_36, l_40, l_41, l_48, l_56, l_57, l_59, l_60, l_61, l_62, l_63, l_79, l_81, l_88, l_93, l_97, l_99, l_105, l_117, l_121, l_122, l_125, l_127, l_131, l_179, l_185, l_193, l_197, l_200, l_201, l_210, l_255, l_390, l_400, l_616, l_900, l_940, l_999, l_1000, l_1024, e_ltT, e_ltF, e_leT, e_leF, e_eqT, e_eqF, e_cl, e_in, e_gd, e_bd, e_ne, e_en, e_nlt, e_ltn, e_len, e_nle, e_nn, e_z0, e_z1, nI_add, pk_mul, e_sub, Nf_app, e_refl, e_reflN, reduceIte, ite_true_, ite_false_, hM, hz, pX11_isFit_j21, h]
    rw [ft, decide_eq_false c, Bool.false_and, b01_f]
theorem c_fit_l (hQ : WQ g) (hW : WS N g) (hS : SR V g) (hT : TB V1 M tb) {q z : Nat} (hq : q < 6) (hzl : z ≤ g (125 + q)) : ∀ (f i : Nat), i ≤ z → z - i < f → ab (fun i => hr g q (g (125 + q) - z + i)) tb i = true → pX6_endsWith_l21 V (oA V1 0) 940 (nI q) (nI z) f (nI i) = some (nI (b01 (ab (fun i => hr g q (g (125 + q) - z + i)) tb z)))
  | 0, _, _, h, _ => by omega
  | f + 1, i, h1, h2, h3 => by
    have hL := w_long hW hq
    have hg := w_g0 hQ
    rw [pX6_endsWith_l21]
    by_cases c : i = z
    · simp (disch := omega) only [l_0, l_1, l_2, l_3, l_4, l_5, l_6, l_7, l_8, l_9, l_10, l_11, l_12, l_13, l_14, l_15, l_16, l_17, l_18, l_19, l_20, l_21, l_22, l_23, l_24, l_25, l_26, l_27, l_28, l_29, l_30, l_31, l_32, l_33, l_34, l_35, l_36, l_40, l_41, l_48, l_56, l_57, l_59, l_60, l_61, l_62, l_63, l_79, l_81, l_88, l_93, l_97, l_99, l_105, l_117, l_121, l_122, l_125, l_127, l_131, l_179, l_185, l_193, l_197, l_200, l_201, l_210, l_255, l_390, l_400, l_616, l_900, l_940, l_999, l_1000, l_1024, e_ltT, e_ltF, e_leT, e_leF, e_eqT, e_eqF, e_cl, e_in, e_gd, e_bd, e_ne, e_en, e_nlt, e_ltn, e_len, e_nle, e_nn, e_z0, e_z1, nI_add, pk_mul, e_sub, Nf_app, e_refl, e_reflN, reduceIte, ite_true_, ite_false_, hS.2.1]
      rw [c] at h3
      rw [h3]; rfl
    · have f1 := c_layer hW hS hq (k := g (125 + q) - z + i) (by omega)
      have t1 := w_th hW hq (k := g (125 + q) - z + i) (by omega)
      have t2 := hT.2.2 i
      by_cases hv : g (131 + 8 * q + (g (125 + q) - z + i)) = tb i
      · have ih := c_fit_l hQ hW hS hT hq hzl f (i + 1) (by omega) (by omega) (by rw [ab, h3]; simp only [hr_app, hv, decide_true, Bool.and_self])
        simp (disch := omega) only [l_0, l_1, l_2, l_3, l_4, l_5, l_6, l_7, l_8, l_9, l_10, l_11, l_12, l_13, l_14, l_15, l_16, l_17, l_18, l_19, l_20, l_21, l_22, l_23, l_24, l_25, l_26, l_27, l_28, l_29, l_30, l_31, l_32, l_33, l_34, l_35, l_36, l_40, l_41, l_48, l_56, l_57, l_59, l_60, l_61, l_62, l_63, l_79, l_81, l_88, l_93, l_97, l_99, l_105, l_117, l_121, l_122, l_125, l_127, l_131, l_179, l_185, l_193, l_197, l_200, l_201, l_210, l_255, l_390, l_400, l_616, l_900, l_940, l_999, l_1000, l_1024, e_ltT, e_ltF, e_leT, e_leF, e_eqT, e_eqF, e_cl, e_in, e_gd, e_bd, e_ne, e_en, e_nlt, e_ltn, e_len, e_nle, e_nn, e_z0, e_z1, nI_add, pk_mul, e_sub, Nf_app, e_refl, e_reflN, reduceIte, ite_true_, ite_false_, s_1 hS, f1, hT.1, ih]
      · simp (disch := omega) only [l_0, l_1, l_2, l_3, l_4, l_5, l_6, l_7, l_8, l_9, l_10, l_11, l_12, l_13, l_14, l_15, l_16, l_17, l_18, l_19, l_20, l_21, l_22, l_23, l_24, l_25, l_26, l_27, l_28, l_29, l_30, l_31, l_32, l_33, l_34, l_35, l_36, l_40, l_41, l_48, l_56, l_57, l_59, l_60, l_61, l_62, l_63, l_79, l_81, l_88, l_93, l_97, l_99, l_105, l_117, l_121, l_122, l_125, l_127, l_131, l_179, l_185, l_193, l_197, l_200, l_201, l_210, l_255, l_390, l_400, l_616, l_900, l_940, l_999, l_1000, l_1024, e_ltT, e_ltF, e_leT, e_leF, e_eqT, e_eqF, e_cl, e_in, e_gd, e_bd, e_ne, e_en, e_nlt, e_ltn, e_len, e_nle, e_nn, e_z0, e_z1, nI_add, pk_mul, e_sub, Nf_app, e_refl, e_reflN, reduceIte, ite_true_, ite_false_, s_1 hS, f1, hT.1]
        rw [ab_not (k := i) (n := z) (by omega) (by rw [hr_app]; exact hv), b01_f]
theorem c_fit (hQ : WQ g) (hW : WS N g) (hS : SR V g) (hT : TB V1 M tb) {q z : Nat} (hq : q < 6) (hz8 : z ≤ 8) : pX6_endsWith V (oA V1 0) 940 (nI q) (nI z) = some (nI (b01 (ft g tb z q))) := by
  have hL := w_long hW hq
  have e940 : Int32.ofNat 940 = nI 940 := rfl
  unfold pX6_endsWith
  by_cases c : z ≤ g (125 + q)
  · have h := c_fit_l hQ hW hS hT hq c fu 0 (by omega) (by rw [fu_eq]; omega) rfl
    simp (disch := omega) only [l_0, l_1, l_2, l_3, l_4, l_5, l_6, l_7, l_8, l_9, l_10, l_11, l_12, l_13, l_14, l_15, l_16, l_17, l_18, l_19, l_20, l_21, l_22, l_23, l_24, l_25, l_26, l_27, l_28, l_29, l_30, l_31, l_32, l_33, l_34, l_35, l_36, l_40, l_41, l_48, l_56, l_57, l_59, l_60, l_61, l_62, l_63, l_79, l_81, l_88, l_93, l_97, l_99, l_105, l_117, l_121, l_122, l_125, l_127, l_131, l_179, l_185, l_193, l_197, l_200, l_201, l_210, l_255, l_390, l_400, l_616, l_900, l_940, l_999, l_1000, l_1024, e_ltT, e_ltF, e_leT, e_leF, e_eqT, e_eqF, e_cl, e_in, e_gd, e_bd, e_ne, e_en, e_nlt, e_ltn, e_len, e_nle, e_nn, e_z0, e_z1, nI_add, pk_mul, e_sub, Nf_app, e_refl, e_reflN, reduceIte, ite_true_, ite_false_, s_1 hS, e940, h]
    rw [ft, decide_eq_true c, Bool.true_and]
  · simp (disch := omega) only [l_0, l_1, l_2, l_3, l_4, l_5, l_6, l_7, l_8, l_9, l_10, l_11, l_12, l_13, l_14, l_15, l_16, l_17, l_18, l_19, l_20, l_21, l_22, l_23, l_24, l_25, l_26, l_27, l_28, l_29, l_30, l_31, l_32, l_33, l_34, l_35, l_36, l_40, l_41, l_48, l_56, l_57, l_59, l_60, l_61, l_62, l_63, l_79, l_81, l_88, l_93, l_97, l_99, l_105, l_117, l_121, l_122, l_125, l_127, l_131, l_179, l_185, l_193, l_197, l_200, l_201, l_210, l_255, l_390, l_400, l_616, l_900, l_940, l_999, l_1000, l_1024, e_ltT, e_ltF, e_leT, e_leF, e_eqT, e_eqF, e_cl, e_in, e_gd, e_bd, e_ne, e_en, e_nlt, e_ltn, e_len, e_nle, e_nn, e_z0, e_z1, nI_add, pk_mul, e_sub, Nf_app, e_refl, e_reflN, reduceIte, ite_true_, ite_false_, s_1 hS]
    rw [ft, decide_eq_false c, Bool.false_and, b01_f]
theorem r_fits_l (hQ : WQ g) (hW : WS N g) (hM : oA M 6 = Nf g) (hT : TB V1 M tb) {z : Nat} (hz : oI M 3 = nI z) (hz8 : z ≤ 8) : ∀ (f k : Nat), k ≤ g 1 → g 1 - k < f → pX11_fits_l61 M f (nI (bs (ft g tb z) k)) (nI k) = some (nI (bs (ft g tb z) (g 1)))
  | 0, _, _, h => by omega
  | f + 1, k, h1, h2 => by
    have g1 := w_g1 hQ
    rw [pX11_fits_l61]
    by_cases c : k = g 1
    · simp (disch := omega) only [l_0, l_1, l_2, l_3, l_4, l_5, l_6, l_7, l_8, l_9, l_10, l_11, l_12, l_13, l_14, l_15, l_16, l_17, l_18, l_19, l_20, l_21, l_22, l_23, l_24, l_25, l_26, l_27, l_28, l_29, l_30, l_31, l_32, l_33, l_34, l_35, l_36, l_40, l_41, l_48, l_56, l_57, l_59, l_60, l_61, l_62, l_63, l_79, l_81, l_88, l_93, l_97, l_99, l_105, l_117, l_121, l_122, l_125, l_127, l_131, l_179, l_185, l_193, l_197, l_200, l_201, l_210, l_255, l_390, l_400, l_616, l_900, l_940, l_999, l_1000, l_1024, e_ltT, e_ltF, e_leT, e_leF, e_eqT, e_eqF, e_cl, e_in, e_gd, e_bd, e_ne, e_en, e_nlt, e_ltn, e_len, e_nle, e_nn, e_z0, e_z1, nI_add, pk_mul, e_sub, Nf_app, e_refl, e_reflN, reduceIte, ite_true_, ite_false_, hM]
      rw [c]
    · have ih := r_fits_l hQ hW hM hT hz hz8 f (k + 1) (by omega) (by omega)
      have hf := r_fit hQ hW hM hT (q := k) (by omega) hz hz8
      cases cf : ft g tb z k with
      | true => rw [bs_t cf] at ih; rw [cf] at hf; simp (disch := omega) only [l_0, l_1, l_2, l_3, l_4, l_5, l_6, l_7, l_8, l_9, l_10, l_11, l_12, l_13, l_14, l_15, l_16, l_17, l_18, l_19, l_20, l_21, l_22, l_23, l_24, l_25, l_26, l_27, l_28, l_29, l_30, l_31, l_32, l_33, l_34, l_35, l_36, l_40, l_41, l_48, l_56, l_57, l_59, l_60, l_61, l_62, l_63, l_79, l_81, l_88, l_93, l_97, l_99, l_105, l_117, l_121, l_122, l_125, l_127, l_131, l_179, l_185, l_193, l_197, l_200, l_201, l_210, l_255, l_390, l_400, l_616, l_900, l_940, l_999, l_1000, l_1024, e_ltT, e_ltF, e_leT, e_leF, e_eqT, e_eqF, e_cl, e_in, e_gd, e_bd, e_ne, e_en, e_nlt, e_ltn, e_len, e_nle, e_nn, e_z0, e_z1, nI_add, pk_mul, e_sub, Nf_app, e_refl, e_reflN, reduceIte, ite_true_, ite_false_, hM, hf, b01_t, e_or, e_shl, ih]
      | false => rw [bs_f cf] at ih; rw [cf] at hf; simp (disch := omega) only [l_0, l_1, l_2, l_3, l_4, l_5, l_6, l_7, l_8, l_9, l_10, l_11, l_12, l_13, l_14, l_15, l_16, l_17, l_18, l_19, l_20, l_21, l_22, l_23, l_24, l_25, l_26, l_27, l_28, l_29, l_30, l_31, l_32, l_33, l_34, l_35, l_36, l_40, l_41, l_48, l_56, l_57, l_59, l_60, l_61, l_62, l_63, l_79, l_81, l_88, l_93, l_97, l_99, l_105, l_117, l_121, l_122, l_125, l_127, l_131, l_179, l_185, l_193, l_197, l_200, l_201, l_210, l_255, l_390, l_400, l_616, l_900, l_940, l_999, l_1000, l_1024, e_ltT, e_ltF, e_leT, e_leF, e_eqT, e_eqF, e_cl, e_in, e_gd, e_bd, e_ne, e_en, e_nlt, e_ltn, e_len, e_nle, e_nn, e_z0, e_z1, nI_add, pk_mul, e_sub, Nf_app, e_refl, e_reflN, reduceIte, ite_true_, ite_false_, hM, hf, b01_f, e_or0, ih]
theorem c_fits_l (hQ : WQ g) (hW : WS N g) (hR : QR V2 g) (hS : SR V g) (hT : TB V1 M tb) {z : Nat} (hz8 : z ≤ 8) : ∀ (f k : Nat), k ≤ g 1 → g 1 - k < f → pX10_fits_l64 V0 V1 V2 V V8 (nI z) f (nI (bs (ft g tb z) k)) (nI k) = some (nI (bs (ft g tb z) (g 1)))
  | 0, _, _, h => by omega
  | f + 1, k, h1, h2 => by
    have g1 := w_g1 hQ
    rw [pX10_fits_l64]
    by_cases c : k = g 1
    · simp (disch := omega) only [l_0, l_1, l_2, l_3, l_4, l_5, l_6, l_7, l_8, l_9, l_10, l_11, l_12, l_13, l_14, l_15, l_16, l_17, l_18, l_19, l_20, l_21, l_22, l_23, l_24, l_25, l_26, l_27, l_28, l_29, l_30, l_31, l_32, l_33, l_34, l_35, l_36, l_40, l_41, l_48, l_56, l_57, l_59, l_60, l_61, l_62, l_63, l_79, l_81, l_88, l_93, l_97, l_99, l_105, l_117, l_121, l_122, l_125, l_127, l_131, l_179, l_185, l_193, l_197, l_200, l_201, l_210, l_255, l_390, l_400, l_616, l_900, l_940, l_999, l_1000, l_1024, e_ltT, e_ltF, e_leT, e_leF, e_eqT, e_eqF, e_cl, e_in, e_gd, e_bd, e_ne, e_en, e_nlt, e_ltn, e_len, e_nle, e_nn, e_z0, e_z1, nI_add, pk_mul, e_sub, Nf_app, e_refl, e_reflN, reduceIte, ite_true_, ite_false_, q_4 hR]
      rw [c]
    · have ih := c_fits_l hQ hW hR hS hT hz8 f (k + 1) (by omega) (by omega)
      have hf := c_fit hQ hW hS hT (q := k) (by omega) hz8
      cases cf : ft g tb z k with
      | true => rw [bs_t cf] at ih; rw [cf] at hf; simp (disch := omega) only [l_0, l_1, l_2, l_3, l_4, l_5, l_6, l_7, l_8, l_9, l_10, l_11, l_12, l_13, l_14, l_15, l_16, l_17, l_18, l_19, l_20, l_21, l_22, l_23, l_24, l_25, l_26, l_27, l_28, l_29, l_30, l_31, l_32, l_33, l_34, l_35, l_36, l_40, l_41, l_48, l_56, l_57, l_59, l_60, l_61, l_62, l_63, l_79, l_81, l_88, l_93, l_97, l_99, l_105, l_117, l_121, l_122, l_125, l_127, l_131, l_179, l_185, l_193, l_197, l_200, l_201, l_210, l_255, l_390, l_400, l_616, l_900, l_940, l_999, l_1000, l_1024, e_ltT, e_ltF, e_leT, e_leF, e_eqT, e_eqF, e_cl, e_in, e_gd, e_bd, e_ne, e_en, e_nlt, e_ltn, e_len, e_nle, e_nn, e_z0, e_z1, nI_add, pk_mul, e_sub, Nf_app, e_refl, e_reflN, reduceIte, ite_true_, ite_false_, q_4 hR, hf, b01_t, e_or, e_shl, ih]
      | false => rw [bs_f cf] at ih; rw [cf] at hf; simp (disch := omega) only [l_0, l_1, l_2, l_3, l_4, l_5, l_6, l_7, l_8, l_9, l_10, l_11, l_12, l_13, l_14, l_15, l_16, l_17, l_18, l_19, l_20, l_21, l_22, l_23, l_24, l_25, l_26, l_27, l_28, l_29, l_30, l_31, l_32, l_33, l_34, l_35, l_36, l_40, l_41, l_48, l_56, l_57, l_59, l_60, l_61, l_62, l_63, l_79, l_81, l_88, l_93, l_97, l_99, l_105, l_117, l_121, l_122, l_125, l_127, l_131, l_179, l_185, l_193, l_197, l_200, l_201, l_210, l_255, l_390, l_400, l_616, l_900, l_940, l_999, l_1000, l_1024, e_ltT, e_ltF, e_leT, e_leF, e_eqT, e_eqF, e_cl, e_in, e_gd, e_bd, e_ne, e_en, e_nlt, e_ltn, e_len, e_nle, e_nn, e_z0, e_z1, nI_add, pk_mul, e_sub, Nf_app, e_refl, e_reflN, reduceIte, ite_true_, ite_false_, q_4 hR, hf, b01_f, e_or0, ih]
/-! which layer tells most -/
theorem r_left1 (hQ : WQ g) (hW : WS N g) (hM : oA M 6 = Nf g) {s k v : Nat} (hs_ : s < 64) (hk : k < 8) (hv : v < 1000) (l3 : Int32) : ∀ (f q : Nat), q ≤ g 1 → g 1 - q < f → pX11_leftBy_l22 M (nI s) (nI k) l3 (i2 v) f (nI (cq g s k v q)) (nI q) = some (nI (cq g s k v (g 1)))
  | 0, _, _, h => by omega
  | f + 1, q, h1, h2 => by
    have g1 := w_g1 hQ
    have g0 := w_g0 hQ
    rw [pX11_leftBy_l22]
    by_cases c : q = g 1
    · simp (disch := omega) only [l_0, l_1, l_2, l_3, l_4, l_5, l_6, l_7, l_8, l_9, l_10, l_11, l_12, l_13, l_14, l_15, l_16, l_17, l_18, l_19, l_20, l_21, l_22, l_23, l_24, l_25, l_26, l_27, l_28, l_29, l_30, l_31, l_32, l_33, l_34, l_35, l_36, l_40, l_41, l_48, l_56, l_57, l_59, l_60, l_61, l_62, l_63, l_79, l_81, l_88, l_93, l_97, l_99, l_105, l_117, l_121, l_122, l_125, l_127, l_131, l_179, l_185, l_193, l_197, l_200, l_201, l_210, l_255, l_390, l_400, l_616, l_900, l_940, l_999, l_1000, l_1024, e_ltT, e_ltF, e_leT, e_leF, e_eqT, e_eqF, e_cl, e_in, e_gd, e_bd, e_ne, e_en, e_nlt, e_ltn, e_len, e_nle, e_nn, e_z0, e_z1, nI_add, pk_mul, e_sub, Nf_app, e_refl, e_reflN, reduceIte, ite_true_, ite_false_, hM]
      rw [c]
    · have ih := r_left1 hQ hW hM hs_ hk hv l3 f (q + 1) (by omega) (by omega)
      have rb := r_bitOf (s := s) (k := q) (by omega) (by omega)
      have rf := r_from2 hW hM (q := q) (k := k) (by omega) (by omega)
      have fl := fo_le hQ hW (q := q) (by omega) k
      have e2 := i2_eq (a := fo g q k) (b := v) (by omega) hv
      rw [cq] at ih
      cases cb : s.testBit q with
      | false =>
        rw [cb] at rb
        rw [if_neg (by rw [cb]; exact fun h => nomatch h.1)] at ih
        simp (disch := omega) only [l_0, l_1, l_2, l_3, l_4, l_5, l_6, l_7, l_8, l_9, l_10, l_11, l_12, l_13, l_14, l_15, l_16, l_17, l_18, l_19, l_20, l_21, l_22, l_23, l_24, l_25, l_26, l_27, l_28, l_29, l_30, l_31, l_32, l_33, l_34, l_35, l_36, l_40, l_41, l_48, l_56, l_57, l_59, l_60, l_61, l_62, l_63, l_79, l_81, l_88, l_93, l_97, l_99, l_105, l_117, l_121, l_122, l_125, l_127, l_131, l_179, l_185, l_193, l_197, l_200, l_201, l_210, l_255, l_390, l_400, l_616, l_900, l_940, l_999, l_1000, l_1024, e_ltT, e_ltF, e_leT, e_leF, e_eqT, e_eqF, e_cl, e_in, e_gd, e_bd, e_ne, e_en, e_nlt, e_ltn, e_len, e_nle, e_nn, e_z0, e_z1, nI_add, pk_mul, e_sub, Nf_app, e_refl, e_reflN, reduceIte, ite_true_, ite_false_, hM, rb, b01_f, pX11_leftBy_j60, ih]
      | true =>
        rw [cb] at rb
        by_cases cv : fo g q k = v
        · rw [if_pos ⟨cb, cv⟩] at ih
          rw [eq_true cv] at e2
          simp (disch := omega) only [l_0, l_1, l_2, l_3, l_4, l_5, l_6, l_7, l_8, l_9, l_10, l_11, l_12, l_13, l_14, l_15, l_16, l_17, l_18, l_19, l_20, l_21, l_22, l_23, l_24, l_25, l_26, l_27, l_28, l_29, l_30, l_31, l_32, l_33, l_34, l_35, l_36, l_40, l_41, l_48, l_56, l_57, l_59, l_60, l_61, l_62, l_63, l_79, l_81, l_88, l_93, l_97, l_99, l_105, l_117, l_121, l_122, l_125, l_127, l_131, l_179, l_185, l_193, l_197, l_200, l_201, l_210, l_255, l_390, l_400, l_616, l_900, l_940, l_999, l_1000, l_1024, e_ltT, e_ltF, e_leT, e_leF, e_eqT, e_eqF, e_cl, e_in, e_gd, e_bd, e_ne, e_en, e_nlt, e_ltn, e_len, e_nle, e_nn, e_z0, e_z1, nI_add, pk_mul, e_sub, Nf_app, e_refl, e_reflN, reduceIte, ite_true_, ite_false_, hM, rb, b01_t, rf, e2, ih]
        · rw [if_neg (fun h => cv h.2)] at ih
          rw [eq_false cv] at e2
          simp (disch := omega) only [l_0, l_1, l_2, l_3, l_4, l_5, l_6, l_7, l_8, l_9, l_10, l_11, l_12, l_13, l_14, l_15, l_16, l_17, l_18, l_19, l_20, l_21, l_22, l_23, l_24, l_25, l_26, l_27, l_28, l_29, l_30, l_31, l_32, l_33, l_34, l_35, l_36, l_40, l_41, l_48, l_56, l_57, l_59, l_60, l_61, l_62, l_63, l_79, l_81, l_88, l_93, l_97, l_99, l_105, l_117, l_121, l_122, l_125, l_127, l_131, l_179, l_185, l_193, l_197, l_200, l_201, l_210, l_255, l_390, l_400, l_616, l_900, l_940, l_999, l_1000, l_1024, e_ltT, e_ltF, e_leT, e_leF, e_eqT, e_eqF, e_cl, e_in, e_gd, e_bd, e_ne, e_en, e_nlt, e_ltn, e_len, e_nle, e_nn, e_z0, e_z1, nI_add, pk_mul, e_sub, Nf_app, e_refl, e_reflN, reduceIte, ite_true_, ite_false_, hM, rb, b01_t, rf, e2, pX11_leftBy_j60, ih]
theorem i2_le {a b : Nat} (ha : a < 1000) (hb : b < 1000) : (nI b ≤ i2 a) = (b + 1 ≤ a) := by
  unfold i2
  by_cases c : a = 0
  · rw [if_pos c, e_len (by omega)]; exact (eq_false (by omega)).symm
  · rw [if_neg c, e_le (by omega) (by omega)]; exact propext (by omega)
theorem mx_s (f : Nat → Nat) (n : Nat) : mx f (n + 1) = if mx f n ≤ f n then f n else mx f n := rfl
theorem mxcq_le (s k n : Nat) : mx (fun v => cq g s k v (g 1)) n ≤ g 1 := by
  rcases mx_at (fun v => cq g s k v (g 1)) n with e | ⟨i, h1, h2⟩
  · omega
  · have := cq_le g s k i (g 1)
    omega
theorem r_left_l (hQ : WQ g) (hW : WS N g) (hM : oA M 6 = Nf g) {s k : Nat} (hs_ : s < 64) (hk : k < 8) : ∀ (f c : Nat), c ≤ g 0 + 1 → g 0 + 1 - c < f → pX11_leftBy_l5 M (nI s) (nI k) f (nI (mx (fun v => cq g s k v (g 1)) c)) (i2 c) = some (nI (lv g s k))
  | 0, _, _, h => by omega
  | f + 1, c, h1, h2 => by
    have g0 := w_g0 hQ
    have g1 := w_g1 hQ
    rw [pX11_leftBy_l5]
    by_cases cc : c = g 0 + 1
    · have e := i2_le (a := c) (b := g 0) (by omega) (by omega)
      rw [eq_true (show g 0 + 1 ≤ c by omega)] at e
      simp (disch := omega) only [l_0, l_1, l_2, l_3, l_4, l_5, l_6, l_7, l_8, l_9, l_10, l_11, l_12, l_13, l_14, l_15, l_16, l_17, l_18, l_19, l_20, l_21, l_22, l_23, l_24, l_25, l_26, l_27, l_28, l_29, l_30, l_31, l_32, l_33, l_34, l_35, l_36, l_40, l_41, l_48, l_56, l_57, l_59, l_60, l_61, l_62, l_63, l_79, l_81, l_88, l_93, l_97, l_99, l_105, l_117, l_121, l_122, l_125, l_127, l_131, l_179, l_185, l_193, l_197, l_200, l_201, l_210, l_255, l_390, l_400, l_616, l_900, l_940, l_999, l_1000, l_1024, e_ltT, e_ltF, e_leT, e_leF, e_eqT, e_eqF, e_cl, e_in, e_gd, e_bd, e_ne, e_en, e_nlt, e_ltn, e_len, e_nle, e_nn, e_z0, e_z1, nI_add, pk_mul, e_sub, Nf_app, e_refl, e_reflN, reduceIte, ite_true_, ite_false_, hM, e]
      rw [cc, lv]
    · have e := i2_le (a := c) (b := g 0) (by omega) (by omega)
      rw [eq_false (show ¬ g 0 + 1 ≤ c by omega)] at e
      have ih := r_left_l hQ hW hM hs_ hk f (c + 1) (by omega) (by omega)
      have h3 := r_left1 hQ hW hM (v := c) hs_ hk (by omega) (nI (mx (fun v => cq g s k v (g 1)) c)) fu 0 (by omega) (by rw [fu_eq]; omega)
      have u1 := mxcq_le (g := g) s k c
      have u2 := cq_le g s k c (g 1)
      rw [cq] at h3
      rw [mx_s] at ih
      by_cases cm : mx (fun v => cq g s k v (g 1)) c ≤ cq g s k c (g 1)
      · rw [if_pos cm] at ih
        simp (disch := omega) only [l_0, l_1, l_2, l_3, l_4, l_5, l_6, l_7, l_8, l_9, l_10, l_11, l_12, l_13, l_14, l_15, l_16, l_17, l_18, l_19, l_20, l_21, l_22, l_23, l_24, l_25, l_26, l_27, l_28, l_29, l_30, l_31, l_32, l_33, l_34, l_35, l_36, l_40, l_41, l_48, l_56, l_57, l_59, l_60, l_61, l_62, l_63, l_79, l_81, l_88, l_93, l_97, l_99, l_105, l_117, l_121, l_122, l_125, l_127, l_131, l_179, l_185, l_193, l_197, l_200, l_201, l_210, l_255, l_390, l_400, l_616, l_900, l_940, l_999, l_1000, l_1024, e_ltT, e_ltF, e_leT, e_leF, e_eqT, e_eqF, e_cl, e_in, e_gd, e_bd, e_ne, e_en, e_nlt, e_ltn, e_len, e_nle, e_nn, e_z0, e_z1, nI_add, pk_mul, e_sub, Nf_app, e_refl, e_reflN, reduceIte, ite_true_, ite_false_, hM, e, h3, pX11_greater, i2_s, ih]
      · rw [if_neg cm] at ih
        simp (disch := omega) only [l_0, l_1, l_2, l_3, l_4, l_5, l_6, l_7, l_8, l_9, l_10, l_11, l_12, l_13, l_14, l_15, l_16, l_17, l_18, l_19, l_20, l_21, l_22, l_23, l_24, l_25, l_26, l_27, l_28, l_29, l_30, l_31, l_32, l_33, l_34, l_35, l_36, l_40, l_41, l_48, l_56, l_57, l_59, l_60, l_61, l_62, l_63, l_79, l_81, l_88, l_93, l_97, l_99, l_105, l_117, l_121, l_122, l_125, l_127, l_131, l_179, l_185, l_193, l_197, l_200, l_201, l_210, l_255, l_390, l_400, l_616, l_900, l_940, l_999, l_1000, l_1024, e_ltT, e_ltF, e_leT, e_leF, e_eqT, e_eqF, e_cl, e_in, e_gd, e_bd, e_ne, e_en, e_nlt, e_ltn, e_len, e_nle, e_nn, e_z0, e_z1, nI_add, pk_mul, e_sub, Nf_app, e_refl, e_reflN, reduceIte, ite_true_, ite_false_, hM, e, h3, pX11_greater, i2_s, ih]
theorem r_left (hQ : WQ g) (hW : WS N g) (hM : oA M 6 = Nf g) {s k : Nat} (hs_ : s < 64) (hk : k < 8) : pX11_leftBy M (nI s) (nI k) = some (nI (lv g s k)) := by
  have g0 := w_g0 hQ
  have h := r_left_l hQ hW hM hs_ hk fu 0 (by omega) (by rw [fu_eq]; omega)
  rw [mx] at h
  unfold pX11_leftBy
  have e : i2 0 = -nI 1 := rfl
  rw [e] at h
  simp (disch := omega) only [l_0, l_1, l_2, l_3, l_4, l_5, l_6, l_7, l_8, l_9, l_10, l_11, l_12, l_13, l_14, l_15, l_16, l_17, l_18, l_19, l_20, l_21, l_22, l_23, l_24, l_25, l_26, l_27, l_28, l_29, l_30, l_31, l_32, l_33, l_34, l_35, l_36, l_40, l_41, l_48, l_56, l_57, l_59, l_60, l_61, l_62, l_63, l_79, l_81, l_88, l_93, l_97, l_99, l_105, l_117, l_121, l_122, l_125, l_127, l_131, l_179, l_185, l_193, l_197, l_200, l_201, l_210, l_255, l_390, l_400, l_616, l_900, l_940, l_999, l_1000, l_1024, e_ltT, e_ltF, e_leT, e_leF, e_eqT, e_eqF, e_cl, e_in, e_gd, e_bd, e_ne, e_en, e_nlt, e_ltn, e_len, e_nle, e_nn, e_z0, e_z1, nI_add, pk_mul, e_sub, Nf_app, e_refl, e_reflN, reduceIte, ite_true_, ite_false_, h]
theorem c_left1 (hQ : WQ g) (hW : WS N g) (hR : QR V2 g) (hS : SR V g) {s k p : Nat} (hs_ : s < 64) (hk : k < 8) (hp : p < g 1) (cb : s.testBit p = true) (l5 : Int32) : ∀ (f q : Nat), q ≤ g 1 → g 1 - q < f → pX3_mostLeft_l21 V8 V2 V (nI s) (nI k) l5 (nI p) f (nI (cq g s k (fo g p k) q)) (nI q) = some (nI (cq g s k (fo g p k) (g 1)))
  | 0, _, _, h => by omega
  | f + 1, q, h1, h2 => by
    have g1 := w_g1 hQ
    have g0 := w_g0 hQ
    have bp := e_bitT cb (by omega) (by omega)
    rw [pX3_mostLeft_l21]
    by_cases c : q = g 1
    · simp (disch := omega) only [l_0, l_1, l_2, l_3, l_4, l_5, l_6, l_7, l_8, l_9, l_10, l_11, l_12, l_13, l_14, l_15, l_16, l_17, l_18, l_19, l_20, l_21, l_22, l_23, l_24, l_25, l_26, l_27, l_28, l_29, l_30, l_31, l_32, l_33, l_34, l_35, l_36, l_40, l_41, l_48, l_56, l_57, l_59, l_60, l_61, l_62, l_63, l_79, l_81, l_88, l_93, l_97, l_99, l_105, l_117, l_121, l_122, l_125, l_127, l_131, l_179, l_185, l_193, l_197, l_200, l_201, l_210, l_255, l_390, l_400, l_616, l_900, l_940, l_999, l_1000, l_1024, e_ltT, e_ltF, e_leT, e_leF, e_eqT, e_eqF, e_cl, e_in, e_gd, e_bd, e_ne, e_en, e_nlt, e_ltn, e_len, e_nle, e_nn, e_z0, e_z1, nI_add, pk_mul, e_sub, Nf_app, e_refl, e_reflN, reduceIte, ite_true_, ite_false_, q_4 hR]
      rw [c]
    · have ih := c_left1 hQ hW hR hS hs_ hk hp cb l5 f (q + 1) (by omega) (by omega)
      have rf := c_from2 hW hS (q := q) (k := k) (by omega) (by omega)
      have rf2 := c_from2 hW hS (q := p) (k := k) (by omega) (by omega)
      have fl := fo_le hQ hW (q := q) (by omega) k
      have fl2 := fo_le hQ hW (q := p) (by omega) k
      have e2 := i2_eq (a := fo g p k) (b := fo g q k) (by omega) (by omega)
      rw [cq] at ih
      cases cbq : s.testBit q with
      | false =>
        have bq := e_bitF cbq (by omega) (by omega)
        rw [if_neg (by rw [cbq]; exact fun h => nomatch h.1), Nat.add_zero] at ih
        simp (disch := omega) only [l_0, l_1, l_2, l_3, l_4, l_5, l_6, l_7, l_8, l_9, l_10, l_11, l_12, l_13, l_14, l_15, l_16, l_17, l_18, l_19, l_20, l_21, l_22, l_23, l_24, l_25, l_26, l_27, l_28, l_29, l_30, l_31, l_32, l_33, l_34, l_35, l_36, l_40, l_41, l_48, l_56, l_57, l_59, l_60, l_61, l_62, l_63, l_79, l_81, l_88, l_93, l_97, l_99, l_105, l_117, l_121, l_122, l_125, l_127, l_131, l_179, l_185, l_193, l_197, l_200, l_201, l_210, l_255, l_390, l_400, l_616, l_900, l_940, l_999, l_1000, l_1024, e_ltT, e_ltF, e_leT, e_leF, e_eqT, e_eqF, e_cl, e_in, e_gd, e_bd, e_ne, e_en, e_nlt, e_ltn, e_len, e_nle, e_nn, e_z0, e_z1, nI_add, pk_mul, e_sub, Nf_app, e_refl, e_reflN, reduceIte, ite_true_, ite_false_, q_4 hR, bp, bq, pX3_mostLeft_j54, pX3_mostLeft_j55, ih]
      | true =>
        have bq := e_bitT cbq (by omega) (by omega)
        by_cases cv : fo g q k = fo g p k
        · rw [if_pos ⟨cbq, cv⟩] at ih
          rw [eq_true cv.symm] at e2
          simp (disch := omega) only [l_0, l_1, l_2, l_3, l_4, l_5, l_6, l_7, l_8, l_9, l_10, l_11, l_12, l_13, l_14, l_15, l_16, l_17, l_18, l_19, l_20, l_21, l_22, l_23, l_24, l_25, l_26, l_27, l_28, l_29, l_30, l_31, l_32, l_33, l_34, l_35, l_36, l_40, l_41, l_48, l_56, l_57, l_59, l_60, l_61, l_62, l_63, l_79, l_81, l_88, l_93, l_97, l_99, l_105, l_117, l_121, l_122, l_125, l_127, l_131, l_179, l_185, l_193, l_197, l_200, l_201, l_210, l_255, l_390, l_400, l_616, l_900, l_940, l_999, l_1000, l_1024, e_ltT, e_ltF, e_leT, e_leF, e_eqT, e_eqF, e_cl, e_in, e_gd, e_bd, e_ne, e_en, e_nlt, e_ltn, e_len, e_nle, e_nn, e_z0, e_z1, nI_add, pk_mul, e_sub, Nf_app, e_refl, e_reflN, reduceIte, ite_true_, ite_false_, q_4 hR, bp, bq, pX3_mostLeft_j55, rf, rf2, e2, ih]
        · rw [if_neg (fun h => cv h.2), Nat.add_zero] at ih
          rw [eq_false (show ¬ fo g p k = fo g q k from fun h => cv h.symm)] at e2
          simp (disch := omega) only [l_0, l_1, l_2, l_3, l_4, l_5, l_6, l_7, l_8, l_9, l_10, l_11, l_12, l_13, l_14, l_15, l_16, l_17, l_18, l_19, l_20, l_21, l_22, l_23, l_24, l_25, l_26, l_27, l_28, l_29, l_30, l_31, l_32, l_33, l_34, l_35, l_36, l_40, l_41, l_48, l_56, l_57, l_59, l_60, l_61, l_62, l_63, l_79, l_81, l_88, l_93, l_97, l_99, l_105, l_117, l_121, l_122, l_125, l_127, l_131, l_179, l_185, l_193, l_197, l_200, l_201, l_210, l_255, l_390, l_400, l_616, l_900, l_940, l_999, l_1000, l_1024, e_ltT, e_ltF, e_leT, e_leF, e_eqT, e_eqF, e_cl, e_in, e_gd, e_bd, e_ne, e_en, e_nlt, e_ltn, e_len, e_nle, e_nn, e_z0, e_z1, nI_add, pk_mul, e_sub, Nf_app, e_refl, e_reflN, reduceIte, ite_true_, ite_false_, q_4 hR, bp, bq, pX3_mostLeft_j55, rf, rf2, e2, ih]
theorem c_left0 (hQ : WQ g) (hR : QR V2 g) {s k p : Nat} (hs_ : s < 64) (hp : p < g 1) (cb : s.testBit p = false) (l5 : Int32) : ∀ (f q : Nat), q ≤ g 1 → g 1 - q < f → pX3_mostLeft_l21 V8 V2 V (nI s) (nI k) l5 (nI p) f (nI 0) (nI q) = some (nI 0)
  | 0, _, _, h => by omega
  | f + 1, q, h1, h2 => by
    have g1 := w_g1 hQ
    have bp := e_bitF cb (by omega) (by omega)
    rw [pX3_mostLeft_l21]
    by_cases c : q = g 1
    · simp (disch := omega) only [l_0, l_1, l_2, l_3, l_4, l_5, l_6, l_7, l_8, l_9, l_10, l_11, l_12, l_13, l_14, l_15, l_16, l_17, l_18, l_19, l_20, l_21, l_22, l_23, l_24, l_25, l_26, l_27, l_28, l_29, l_30, l_31, l_32, l_33, l_34, l_35, l_36, l_40, l_41, l_48, l_56, l_57, l_59, l_60, l_61, l_62, l_63, l_79, l_81, l_88, l_93, l_97, l_99, l_105, l_117, l_121, l_122, l_125, l_127, l_131, l_179, l_185, l_193, l_197, l_200, l_201, l_210, l_255, l_390, l_400, l_616, l_900, l_940, l_999, l_1000, l_1024, e_ltT, e_ltF, e_leT, e_leF, e_eqT, e_eqF, e_cl, e_in, e_gd, e_bd, e_ne, e_en, e_nlt, e_ltn, e_len, e_nle, e_nn, e_z0, e_z1, nI_add, pk_mul, e_sub, Nf_app, e_refl, e_reflN, reduceIte, ite_true_, ite_false_, q_4 hR]
    · have ih := c_left0 (k := k) hQ hR hs_ hp cb l5 f (q + 1) (by omega) (by omega)
      simp (disch := omega) only [l_0, l_1, l_2, l_3, l_4, l_5, l_6, l_7, l_8, l_9, l_10, l_11, l_12, l_13, l_14, l_15, l_16, l_17, l_18, l_19, l_20, l_21, l_22, l_23, l_24, l_25, l_26, l_27, l_28, l_29, l_30, l_31, l_32, l_33, l_34, l_35, l_36, l_40, l_41, l_48, l_56, l_57, l_59, l_60, l_61, l_62, l_63, l_79, l_81, l_88, l_93, l_97, l_99, l_105, l_117, l_121, l_122, l_125, l_127, l_131, l_179, l_185, l_193, l_197, l_200, l_201, l_210, l_255, l_390, l_400, l_616, l_900, l_940, l_999, l_1000, l_1024, e_ltT, e_ltF, e_leT, e_leF, e_eqT, e_eqF, e_cl, e_in, e_gd, e_bd, e_ne, e_en, e_nlt, e_ltn, e_len, e_nle, e_nn, e_z0, e_z1, nI_add, pk_mul, e_sub, Nf_app, e_refl, e_reflN, reduceIte, ite_true_, ite_false_, q_4 hR, bp, pX3_mostLeft_j54, pX3_mostLeft_j55, ih]
theorem cp_le (s k p : Nat) : cp g s k p ≤ g 1 := by
  have := cq_le g s k (fo g p k) (g 1)
  unfold cp; split <;> omega
theorem c_left_l (hQ : WQ g) (hW : WS N g) (hR : QR V2 g) (hS : SR V g) {s k : Nat} (hs_ : s < 64) (hk : k < 8) : ∀ (f p : Nat), p ≤ g 1 → g 1 - p < f → pX3_mostLeft_l6 V8 V2 V (nI s) (nI k) f (nI (mx (cp g s k) p)) (nI p) = some (nI (mx (cp g s k) (g 1)))
  | 0, _, _, h => by omega
  | f + 1, p, h1, h2 => by
    have g1 := w_g1 hQ
    rw [pX3_mostLeft_l6]
    by_cases c : p = g 1
    · simp (disch := omega) only [l_0, l_1, l_2, l_3, l_4, l_5, l_6, l_7, l_8, l_9, l_10, l_11, l_12, l_13, l_14, l_15, l_16, l_17, l_18, l_19, l_20, l_21, l_22, l_23, l_24, l_25, l_26, l_27, l_28, l_29, l_30, l_31, l_32, l_33, l_34, l_35, l_36, l_40, l_41, l_48, l_56, l_57, l_59, l_60, l_61, l_62, l_63, l_79, l_81, l_88, l_93, l_97, l_99, l_105, l_117, l_121, l_122, l_125, l_127, l_131, l_179, l_185, l_193, l_197, l_200, l_201, l_210, l_255, l_390, l_400, l_616, l_900, l_940, l_999, l_1000, l_1024, e_ltT, e_ltF, e_leT, e_leF, e_eqT, e_eqF, e_cl, e_in, e_gd, e_bd, e_ne, e_en, e_nlt, e_ltn, e_len, e_nle, e_nn, e_z0, e_z1, nI_add, pk_mul, e_sub, Nf_app, e_refl, e_reflN, reduceIte, ite_true_, ite_false_, q_4 hR]
      rw [c]
    · have ih := c_left_l hQ hW hR hS hs_ hk f (p + 1) (by omega) (by omega)
      have h3 : pX3_mostLeft_l21 V8 V2 V (nI s) (nI k) (nI (mx (cp g s k) p)) (nI p) fu (nI 0) (nI 0) = some (nI (cp g s k p)) := by
        unfold cp
        cases cb : s.testBit p with
        | true =>
          have h := c_left1 (V8 := V8) hQ hW hR hS hs_ hk (p := p) (by omega) cb (nI (mx (cp g s k) p)) fu 0 (by omega) (by rw [fu_eq]; omega)
          rw [cq] at h
          rw [if_pos rfl]; exact h
        | false =>
          rw [if_neg (by decide)]
          exact c_left0 (V8 := V8) (V := V) (k := k) hQ hR hs_ (p := p) (by omega) cb (nI (mx (cp g s k) p)) fu 0 (by omega) (by rw [fu_eq]; omega)
      have u1 := cp_le (g := g) s k p
      have u2 : mx (cp g s k) p ≤ g 1 := by
        rcases mx_at (cp g s k) p with e | ⟨i, e1, e2⟩
        · omega
        · have := cp_le (g := g) s k i; omega
      rw [mx_s] at ih
      by_cases cm : mx (cp g s k) p < cp g s k p
      · rw [if_pos (by omega)] at ih
        simp (disch := omega) only [l_0, l_1, l_2, l_3, l_4, l_5, l_6, l_7, l_8, l_9, l_10, l_11, l_12, l_13, l_14, l_15, l_16, l_17, l_18, l_19, l_20, l_21, l_22, l_23, l_24, l_25, l_26, l_27, l_28, l_29, l_30, l_31, l_32, l_33, l_34, l_35, l_36, l_40, l_41, l_48, l_56, l_57, l_59, l_60, l_61, l_62, l_63, l_79, l_81, l_88, l_93, l_97, l_99, l_105, l_117, l_121, l_122, l_125, l_127, l_131, l_179, l_185, l_193, l_197, l_200, l_201, l_210, l_255, l_390, l_400, l_616, l_900, l_940, l_999, l_1000, l_1024, e_ltT, e_ltF, e_leT, e_leF, e_eqT, e_eqF, e_cl, e_in, e_gd, e_bd, e_ne, e_en, e_nlt, e_ltn, e_len, e_nle, e_nn, e_z0, e_z1, nI_add, pk_mul, e_sub, Nf_app, e_refl, e_reflN, reduceIte, ite_true_, ite_false_, q_4 hR, h3, ih]
      · by_cases ce : mx (cp g s k) p = cp g s k p
        · rw [if_pos (by omega), ← ce] at ih
          rw [← ce] at h3
          simp (disch := omega) only [l_0, l_1, l_2, l_3, l_4, l_5, l_6, l_7, l_8, l_9, l_10, l_11, l_12, l_13, l_14, l_15, l_16, l_17, l_18, l_19, l_20, l_21, l_22, l_23, l_24, l_25, l_26, l_27, l_28, l_29, l_30, l_31, l_32, l_33, l_34, l_35, l_36, l_40, l_41, l_48, l_56, l_57, l_59, l_60, l_61, l_62, l_63, l_79, l_81, l_88, l_93, l_97, l_99, l_105, l_117, l_121, l_122, l_125, l_127, l_131, l_179, l_185, l_193, l_197, l_200, l_201, l_210, l_255, l_390, l_400, l_616, l_900, l_940, l_999, l_1000, l_1024, e_ltT, e_ltF, e_leT, e_leF, e_eqT, e_eqF, e_cl, e_in, e_gd, e_bd, e_ne, e_en, e_nlt, e_ltn, e_len, e_nle, e_nn, e_z0, e_z1, nI_add, pk_mul, e_sub, Nf_app, e_refl, e_reflN, reduceIte, ite_true_, ite_false_, q_4 hR, h3, ih]
        · rw [if_neg (by omega)] at ih
          simp (disch := omega) only [l_0, l_1, l_2, l_3, l_4, l_5, l_6, l_7, l_8, l_9, l_10, l_11, l_12, l_13, l_14, l_15, l_16, l_17, l_18, l_19, l_20, l_21, l_22, l_23, l_24, l_25, l_26, l_27, l_28, l_29, l_30, l_31, l_32, l_33, l_34, l_35, l_36, l_40, l_41, l_48, l_56, l_57, l_59, l_60, l_61, l_62, l_63, l_79, l_81, l_88, l_93, l_97, l_99, l_105, l_117, l_121, l_122, l_125, l_127, l_131, l_179, l_185, l_193, l_197, l_200, l_201, l_210, l_255, l_390, l_400, l_616, l_900, l_940, l_999, l_1000, l_1024, e_ltT, e_ltF, e_leT, e_leF, e_eqT, e_eqF, e_cl, e_in, e_gd, e_bd, e_ne, e_en, e_nlt, e_ltn, e_len, e_nle, e_nn, e_z0, e_z1, nI_add, pk_mul, e_sub, Nf_app, e_refl, e_reflN, reduceIte, ite_true_, ite_false_, q_4 hR, h3, ih]
theorem left_eq (hQ : WQ g) (hW : WS N g) (s k : Nat) : mx (cp g s k) (g 1) = lv g s k := by
  have g1 := w_g1 hQ
  apply Nat.le_antisymm
  · refine mx_le (fun p hp => ?_)
    unfold cp
    by_cases c : s.testBit p = true
    · rw [if_pos c]
      exact Or.inr ⟨fo g p k, by have := fo_le hQ hW (q := p) (by omega) k; omega, Nat.le_refl _⟩
    · rw [if_neg c]; exact Or.inl rfl
  · refine mx_le (fun v hv => ?_)
    by_cases c : cq g s k v (g 1) = 0
    · exact Or.inl c
    · obtain ⟨q, a, b, d⟩ := cq_pos (n := g 1) (g := g) (s := s) (k := k) (v := v) (by omega)
      refine Or.inr ⟨q, a, ?_⟩
      show cq g s k v (g 1) ≤ cp g s k q
      rw [cp, if_pos b, d]; exact Nat.le_refl _
theorem c_left (hQ : WQ g) (hW : WS N g) (hR : QR V2 g) (hS : SR V g) {s k : Nat} (hs_ : s < 64) (hk : k < 8) : pX3_mostLeft V8 V2 V (nI s) (nI k) = some (nI (lv g s k)) := by
  have g1 := w_g1 hQ
  have h := c_left_l (V8 := V8) hQ hW hR hS hs_ hk fu 0 (by omega) (by rw [fu_eq]; omega)
  rw [mx, left_eq hQ hW] at h
  unfold pX3_mostLeft
  rw [l_0, h, e_bd]
theorem lv_le (hQ : WQ g) (s k : Nat) : lv g s k ≤ 6 := by
  have g1 := w_g1 hQ
  have := mxcq_le (g := g) s k (g 0 + 1)
  unfold lv; omega
theorem r_ask_l (hQ : WQ g) (hW : WS N g) {s : Nat} (hs_ : s < 64) : ∀ (f k : Nat) {M : Ob}, oA M 6 = Nf g → 1 ≤ k → k ≤ 8 → 8 - k < f → pX11_fits_l113 (nI s) f (nI k) (sI M 31 (nI (al g s (k - 1)))) = some (sI M 31 (nI (al g s 7)))
  | 0, _, _, _, _, _, h => by omega
  | f + 1, k, M, hM, h0, h1, h2 => by
    rw [pX11_fits_l113]
    by_cases c : k = 8
    · subst c
      simp (disch := omega) only [l_0, l_1, l_2, l_3, l_4, l_5, l_6, l_7, l_8, l_9, l_10, l_11, l_12, l_13, l_14, l_15, l_16, l_17, l_18, l_19, l_20, l_21, l_22, l_23, l_24, l_25, l_26, l_27, l_28, l_29, l_30, l_31, l_32, l_33, l_34, l_35, l_36, l_40, l_41, l_48, l_56, l_57, l_59, l_60, l_61, l_62, l_63, l_79, l_81, l_88, l_93, l_97, l_99, l_105, l_117, l_121, l_122, l_125, l_127, l_131, l_179, l_185, l_193, l_197, l_200, l_201, l_210, l_255, l_390, l_400, l_616, l_900, l_940, l_999, l_1000, l_1024, e_ltT, e_ltF, e_leT, e_leF, e_eqT, e_eqF, e_cl, e_in, e_gd, e_bd, e_ne, e_en, e_nlt, e_ltn, e_len, e_nle, e_nn, e_z0, e_z1, nI_add, pk_mul, e_sub, Nf_app, e_refl, e_reflN, reduceIte, ite_true_, ite_false_, hM]
    · have hM' : ∀ x, oA (sI M 31 x) 6 = Nf g := fun x => hM
      have a1 := al_le g s (k - 1)
      have ih := r_ask_l hQ hW hs_ f (k + 1) hM (by omega) (by omega) (by omega)
      obtain ⟨j, rfl⟩ : ∃ j, k = j + 1 := ⟨k - 1, by omega⟩
      rw [Nat.add_sub_cancel] at ih a1 ⊢
      have l1 := r_left hQ hW (hM' (nI (al g s j))) hs_ (k := j + 1) (by omega)
      have l2 := r_left hQ hW (hM' (nI (al g s j))) hs_ (k := al g s j) (by omega)
      have u1 := lv_le hQ s (j + 1)
      have u2 := lv_le hQ s (al g s j)
      rw [al] at ih
      by_cases cl : lv g s (j + 1) < lv g s (al g s j)
      · rw [if_pos cl] at ih
        simp (disch := omega) only [l_0, l_1, l_2, l_3, l_4, l_5, l_6, l_7, l_8, l_9, l_10, l_11, l_12, l_13, l_14, l_15, l_16, l_17, l_18, l_19, l_20, l_21, l_22, l_23, l_24, l_25, l_26, l_27, l_28, l_29, l_30, l_31, l_32, l_33, l_34, l_35, l_36, l_40, l_41, l_48, l_56, l_57, l_59, l_60, l_61, l_62, l_63, l_79, l_81, l_88, l_93, l_97, l_99, l_105, l_117, l_121, l_122, l_125, l_127, l_131, l_179, l_185, l_193, l_197, l_200, l_201, l_210, l_255, l_390, l_400, l_616, l_900, l_940, l_999, l_1000, l_1024, e_ltT, e_ltF, e_leT, e_leF, e_eqT, e_eqF, e_cl, e_in, e_gd, e_bd, e_ne, e_en, e_nlt, e_ltn, e_len, e_nle, e_nn, e_z0, e_z1, nI_add, pk_mul, e_sub, Nf_app, e_refl, e_reflN, reduceIte, ite_true_, ite_false_, oI_sI, oI_sL, oI_sW, oI_sA, oI_sJ, oI_sX, oL_sI, oL_sL, oL_sW, oL_sA, oL_sJ, oL_sX, oW_sI, oW_sL, oW_sW, oW_sA, oW_sJ, oW_sX, oA_sI, oA_sL, oA_sW, oA_sA, oA_sJ, oA_sX, oJ_sI, oJ_sL, oJ_sW, oJ_sA, oJ_sJ, oJ_sX, oX_sI, oX_sL, oX_sW, oX_sA, oX_sJ, oX_sX, Nat.reduceEqDiff, n10, n01, l1, l2, sI_sI, ih]
      · rw [if_neg cl] at ih
        simp (disch := omega) only [l_0, l_1, l_2, l_3, l_4, l_5, l_6, l_7, l_8, l_9, l_10, l_11, l_12, l_13, l_14, l_15, l_16, l_17, l_18, l_19, l_20, l_21, l_22, l_23, l_24, l_25, l_26, l_27, l_28, l_29, l_30, l_31, l_32, l_33, l_34, l_35, l_36, l_40, l_41, l_48, l_56, l_57, l_59, l_60, l_61, l_62, l_63, l_79, l_81, l_88, l_93, l_97, l_99, l_105, l_117, l_121, l_122, l_125, l_127, l_131, l_179, l_185, l_193, l_197, l_200, l_201, l_210, l_255, l_390, l_400, l_616, l_900, l_940, l_999, l_1000, l_1024, e_ltT, e_ltF, e_leT, e_leF, e_eqT, e_eqF, e_cl, e_in, e_gd, e_bd, e_ne, e_en, e_nlt, e_ltn, e_len, e_nle, e_nn, e_z0, e_z1, nI_add, pk_mul, e_sub, Nf_app, e_refl, e_reflN, reduceIte, ite_true_, ite_false_, oI_sI, oI_sL, oI_sW, oI_sA, oI_sJ, oI_sX, oL_sI, oL_sL, oL_sW, oL_sA, oL_sJ, oL_sX, oW_sI, oW_sL, oW_sW, oW_sA, oW_sJ, oW_sX, oA_sI, oA_sL, oA_sW, oA_sA, oA_sJ, oA_sX, oJ_sI, oJ_sL, oJ_sW, oJ_sA, oJ_sJ, oJ_sX, oX_sI, oX_sL, oX_sW, oX_sA, oX_sJ, oX_sX, Nat.reduceEqDiff, n10, n01, l1, l2, ih]
theorem c_ask_l (hQ : WQ g) (hW : WS N g) (hR : QR V2 g) (hS : SR V g) {s : Nat} (hs_ : s < 64) : ∀ (f k : Nat), 1 ≤ k → k ≤ 8 → 8 - k < f → pX3_bestLayer_l10 V8 V2 V (nI s) f (nI (al g s (k - 1))) (nI (lv g s (al g s (k - 1)))) (nI k) = some (nI (al g s 7))
  | 0, _, _, _, h => by omega
  | f + 1, k, h0, h1, h2 => by
    rw [pX3_bestLayer_l10]
    by_cases c : k = 8
    · subst c
      simp (disch := omega) only [l_0, l_1, l_2, l_3, l_4, l_5, l_6, l_7, l_8, l_9, l_10, l_11, l_12, l_13, l_14, l_15, l_16, l_17, l_18, l_19, l_20, l_21, l_22, l_23, l_24, l_25, l_26, l_27, l_28, l_29, l_30, l_31, l_32, l_33, l_34, l_35, l_36, l_40, l_41, l_48, l_56, l_57, l_59, l_60, l_61, l_62, l_63, l_79, l_81, l_88, l_93, l_97, l_99, l_105, l_117, l_121, l_122, l_125, l_127, l_131, l_179, l_185, l_193, l_197, l_200, l_201, l_210, l_255, l_390, l_400, l_616, l_900, l_940, l_999, l_1000, l_1024, e_ltT, e_ltF, e_leT, e_leF, e_eqT, e_eqF, e_cl, e_in, e_gd, e_bd, e_ne, e_en, e_nlt, e_ltn, e_len, e_nle, e_nn, e_z0, e_z1, nI_add, pk_mul, e_sub, Nf_app, e_refl, e_reflN, reduceIte, ite_true_, ite_false_, hR.1]
    · have a1 := al_le g s (k - 1)
      have ih := c_ask_l hQ hW hR hS hs_ f (k + 1) (by omega) (by omega) (by omega)
      obtain ⟨j, rfl⟩ : ∃ j, k = j + 1 := ⟨k - 1, by omega⟩
      rw [Nat.add_sub_cancel] at ih a1 ⊢
      have l1 := c_left (V8 := V8) hQ hW hR hS hs_ (k := j + 1) (by omega)
      have u1 := lv_le hQ s (j + 1)
      have u2 := lv_le hQ s (al g s j)
      rw [al] at ih
      by_cases cl : lv g s (j + 1) < lv g s (al g s j)
      · rw [if_pos cl] at ih
        simp (disch := omega) only [l_0, l_1, l_2, l_3, l_4, l_5, l_6, l_7, l_8, l_9, l_10, l_11, l_12, l_13, l_14, l_15, l_16, l_17, l_18, l_19, l_20, l_21, l_22, l_23, l_24, l_25, l_26, l_27, l_28, l_29, l_30, l_31, l_32, l_33, l_34, l_35, l_36, l_40, l_41, l_48, l_56, l_57, l_59, l_60, l_61, l_62, l_63, l_79, l_81, l_88, l_93, l_97, l_99, l_105, l_117, l_121, l_122, l_125, l_127, l_131, l_179, l_185, l_193, l_197, l_200, l_201, l_210, l_255, l_390, l_400, l_616, l_900, l_940, l_999, l_1000, l_1024, e_ltT, e_ltF, e_leT, e_leF, e_eqT, e_eqF, e_cl, e_in, e_gd, e_bd, e_ne, e_en, e_nlt, e_ltn, e_len, e_nle, e_nn, e_z0, e_z1, nI_add, pk_mul, e_sub, Nf_app, e_refl, e_reflN, reduceIte, ite_true_, ite_false_, l1, ih]
      · rw [if_neg cl] at ih
        simp (disch := omega) only [l_0, l_1, l_2, l_3, l_4, l_5, l_6, l_7, l_8, l_9, l_10, l_11, l_12, l_13, l_14, l_15, l_16, l_17, l_18, l_19, l_20, l_21, l_22, l_23, l_24, l_25, l_26, l_27, l_28, l_29, l_30, l_31, l_32, l_33, l_34, l_35, l_36, l_40, l_41, l_48, l_56, l_57, l_59, l_60, l_61, l_62, l_63, l_79, l_81, l_88, l_93, l_97, l_99, l_105, l_117, l_121, l_122, l_125, l_127, l_131, l_179, l_185, l_193, l_197, l_200, l_201, l_210, l_255, l_390, l_400, l_616, l_900, l_940, l_999, l_1000, l_1024, e_ltT, e_ltF, e_leT, e_leF, e_eqT, e_eqF, e_cl, e_in, e_gd, e_bd, e_ne, e_en, e_nlt, e_ltn, e_len, e_nle, e_nn, e_z0, e_z1, nI_add, pk_mul, e_sub, Nf_app, e_refl, e_reflN, reduceIte, ite_true_, ite_false_, l1, ih]
theorem c_ask (hQ : WQ g) (hW : WS N g) (hR : QR V2 g) (hS : SR V g) {s : Nat} (hs_ : s < 64) : pX3_bestLayer V8 V2 V (nI s) = some (nI (al g s 7)) := by
  have h := c_ask_l (V8 := V8) hQ hW hR hS hs_ 99999 1 (by omega) (by omega) (by omega)
  have l1 := c_left (V8 := V8) hQ hW hR hS hs_ (k := 0) (by omega)
  have u1 := lv_le hQ s 0
  rw [Nat.sub_self, al] at h
  unfold pX3_bestLayer
  have e : pX3_bestLayer_l10 V8 V2 V (nI s) fu (nI 0) (nI 7) (nI 0) = some (nI (al g s 7)) := by
    rw [show fu = 99999 + 1 from rfl, pX3_bestLayer_l10]
    simp (disch := omega) only [l_0, l_1, l_2, l_3, l_4, l_5, l_6, l_7, l_8, l_9, l_10, l_11, l_12, l_13, l_14, l_15, l_16, l_17, l_18, l_19, l_20, l_21, l_22, l_23, l_24, l_25, l_26, l_27, l_28, l_29, l_30, l_31, l_32, l_33, l_34, l_35, l_36, l_40, l_41, l_48, l_56, l_57, l_59, l_60, l_61, l_62, l_63, l_79, l_81, l_88, l_93, l_97, l_99, l_105, l_117, l_121, l_122, l_125, l_127, l_131, l_179, l_185, l_193, l_197, l_200, l_201, l_210, l_255, l_390, l_400, l_616, l_900, l_940, l_999, l_1000, l_1024, e_ltT, e_ltF, e_leT, e_leF, e_eqT, e_eqF, e_cl, e_in, e_gd, e_bd, e_ne, e_en, e_nlt, e_ltn, e_len, e_nle, e_nn, e_z0, e_z1, nI_add, pk_mul, e_sub, Nf_app, e_refl, e_reflN, reduceIte, ite_true_, ite_false_, l1, h]
  simp (disch := omega) only [l_0, l_1, l_2, l_3, l_4, l_5, l_6, l_7, l_8, l_9, l_10, l_11, l_12, l_13, l_14, l_15, l_16, l_17, l_18, l_19, l_20, l_21, l_22, l_23, l_24, l_25, l_26, l_27, l_28, l_29, l_30, l_31, l_32, l_33, l_34, l_35, l_36, l_40, l_41, l_48, l_56, l_57, l_59, l_60, l_61, l_62, l_63, l_79, l_81, l_88, l_93, l_97, l_99, l_105, l_117, l_121, l_122, l_125, l_127, l_131, l_179, l_185, l_193, l_197, l_200, l_201, l_210, l_255, l_390, l_400, l_616, l_900, l_940, l_999, l_1000, l_1024, e_ltT, e_ltF, e_leT, e_leF, e_eqT, e_eqF, e_cl, e_in, e_gd, e_bd, e_ne, e_en, e_nlt, e_ltn, e_len, e_nle, e_nn, e_z0, e_z1, nI_add, pk_mul, e_sub, Nf_app, e_refl, e_reflN, reduceIte, ite_true_, ite_false_, e]
end
