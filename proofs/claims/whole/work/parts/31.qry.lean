/-! what holds of a quarter's row g (as the reference lays it), and how the class's units say the same -/
def WQ (g : Nat → Nat) : Prop :=
  g 0 ≤ 8 ∧ g 1 ≤ 6 ∧ g 2 ≤ 12 ∧ g 3 ≤ 4 ∧ (1 ≤ g 4 ∧ g 4 ≤ 20) ∧
  (∀ i, i < g 0 → 1 ≤ g (5 + i) ∧ g (5 + i) ≤ 9 ∧ g (13 + i) ≤ 9) ∧
  (∀ i, i < g 1 → 1 ≤ g (21 + i) ∧ g (21 + i) ≤ 99) ∧
  (∀ i, i < g 2 → g (81 + i) < g 1 ∧ g (93 + i) < g 0 ∧ 1 ≤ g (105 + i) ∧ g (105 + i) ≤ 9) ∧
  (∀ i, i < g 3 → 1 ≤ g (117 + i) ∧ g (117 + i) ≤ 99)
def WS (N : Nat) (g : Nat → Nat) : Prop :=
  (∀ p, p < 6 → g (125 + p) ≤ 8) ∧ (∀ p, p < 6 → ∀ k, k < g (125 + p) → g (131 + 8 * p + k) < g 0) ∧
  (∀ p, p < g 1 → g (179 + p) ≤ g (21 + p)) ∧ sm (fun t => g (185 + t)) 8 ≤ 10 ∧ (∀ t, g 0 ≤ t → t < 8 → g (185 + t) = 0) ∧
  (∀ b, b < 4 → g (193 + b) ≤ N)
def QR (V : Ob) (g : Nat → Nat) : Prop :=
  oI V 0 = nI (g 0) ∧ oI V 4 = nI (g 1) ∧ oI V 7 = nI (g 2) ∧ oI V 11 = nI (g 3) ∧ oI V 14 = nI (g 4) ∧
  (∀ i, i < g 0 → oA V 2 i = nI (g (5 + i))) ∧ (∀ i, i < g 0 → oA V 3 i = nI (g (13 + i))) ∧
  (∀ i, i < g 1 → oA V 6 i = nI (g (21 + i))) ∧
  (∀ i, i < g 2 → oA V 8 i = nI (g (81 + i))) ∧ (∀ i, i < g 2 → oA V 9 i = nI (g (93 + i))) ∧ (∀ i, i < g 2 → oA V 10 i = nI (g (105 + i))) ∧
  (∀ i, i < g 3 → oA V 13 i = nI (g (117 + i)))
def SR (V : Ob) (g : Nat → Nat) : Prop :=
  (∀ p, p < 6 → ∀ k, k < g (125 + p) → oA V 0 (p * 8 + k) = nI (g (131 + 8 * p + k))) ∧
  (∀ p, p < 6 → oA V 1 p = nI (g (125 + p))) ∧
  (∀ p, p < g 1 → oA V 2 p = nI (g (179 + p))) ∧
  (∀ t, t < 8 → oA V 3 t = nI (g (185 + t))) ∧
  (∀ t, t < 8 → oA V 4 t = nI (g (201 + t))) ∧
  (∀ b, b < 4 → oA V 5 b = nI (g (193 + b))) ∧
  (∀ b, b < 4 → oA V 6 b = nI (g (197 + b))) ∧
  oI V 7 = nI (sm (fun t => g (185 + t)) 8) ∧ oI V 8 = nI (g 121) ∧ oI V 9 = nI (g 122) ∧ oI V 10 = nI (g 123) ∧ oI V 11 = nI (g 124)
theorem q_0 {V : Ob} {g : Nat → Nat} (h : QR V g) : oI V 0 = nI (g 0) := h.1
theorem q_4 {V : Ob} {g : Nat → Nat} (h : QR V g) : oI V 4 = nI (g 1) := h.2.1
theorem q_7 {V : Ob} {g : Nat → Nat} (h : QR V g) : oI V 7 = nI (g 2) := h.2.2.1
theorem q_11 {V : Ob} {g : Nat → Nat} (h : QR V g) : oI V 11 = nI (g 3) := h.2.2.2.1
theorem q_14 {V : Ob} {g : Nat → Nat} (h : QR V g) : oI V 14 = nI (g 4) := h.2.2.2.2.1
theorem q_2 {V : Ob} {g : Nat → Nat} (h : QR V g) : ∀ i, i < g 0 → oA V 2 i = nI (g (5 + i)) := h.2.2.2.2.2.1
theorem q_3 {V : Ob} {g : Nat → Nat} (h : QR V g) : ∀ i, i < g 0 → oA V 3 i = nI (g (13 + i)) := h.2.2.2.2.2.2.1
theorem q_6 {V : Ob} {g : Nat → Nat} (h : QR V g) : ∀ i, i < g 1 → oA V 6 i = nI (g (21 + i)) := h.2.2.2.2.2.2.2.1
theorem q_8 {V : Ob} {g : Nat → Nat} (h : QR V g) : ∀ i, i < g 2 → oA V 8 i = nI (g (81 + i)) := h.2.2.2.2.2.2.2.2.1
theorem q_9 {V : Ob} {g : Nat → Nat} (h : QR V g) : ∀ i, i < g 2 → oA V 9 i = nI (g (93 + i)) := h.2.2.2.2.2.2.2.2.2.1
theorem q_10 {V : Ob} {g : Nat → Nat} (h : QR V g) : ∀ i, i < g 2 → oA V 10 i = nI (g (105 + i)) := h.2.2.2.2.2.2.2.2.2.2.1
theorem q_13 {V : Ob} {g : Nat → Nat} (h : QR V g) : ∀ i, i < g 3 → oA V 13 i = nI (g (117 + i)) := h.2.2.2.2.2.2.2.2.2.2.2
theorem s_0 {V : Ob} {g : Nat → Nat} (h : SR V g) : ∀ p, p < 6 → ∀ k, k < g (125 + p) → oA V 0 (p * 8 + k) = nI (g (131 + 8 * p + k)) := h.1
theorem s_1 {V : Ob} {g : Nat → Nat} (h : SR V g) : ∀ p, p < 6 → oA V 1 p = nI (g (125 + p)) := h.2.1
theorem s_2 {V : Ob} {g : Nat → Nat} (h : SR V g) : ∀ p, p < g 1 → oA V 2 p = nI (g (179 + p)) := h.2.2.1
theorem s_3 {V : Ob} {g : Nat → Nat} (h : SR V g) : ∀ t, t < 8 → oA V 3 t = nI (g (185 + t)) := h.2.2.2.1
theorem s_4 {V : Ob} {g : Nat → Nat} (h : SR V g) : ∀ t, t < 8 → oA V 4 t = nI (g (201 + t)) := h.2.2.2.2.1
theorem s_5 {V : Ob} {g : Nat → Nat} (h : SR V g) : ∀ b, b < 4 → oA V 5 b = nI (g (193 + b)) := h.2.2.2.2.2.1
theorem s_6 {V : Ob} {g : Nat → Nat} (h : SR V g) : ∀ b, b < 4 → oA V 6 b = nI (g (197 + b)) := h.2.2.2.2.2.2.1
theorem s_7 {V : Ob} {g : Nat → Nat} (h : SR V g) : oI V 7 = nI (sm (fun t => g (185 + t)) 8) := h.2.2.2.2.2.2.2.1
theorem s_8 {V : Ob} {g : Nat → Nat} (h : SR V g) : oI V 8 = nI (g 121) := h.2.2.2.2.2.2.2.2.1
theorem s_9 {V : Ob} {g : Nat → Nat} (h : SR V g) : oI V 9 = nI (g 122) := h.2.2.2.2.2.2.2.2.2.1
theorem s_10 {V : Ob} {g : Nat → Nat} (h : SR V g) : oI V 10 = nI (g 123) := h.2.2.2.2.2.2.2.2.2.2.1
theorem s_11 {V : Ob} {g : Nat → Nat} (h : SR V g) : oI V 11 = nI (g 124) := h.2.2.2.2.2.2.2.2.2.2.2
/-- the row of a person's hair, from the crown on -/
def hr (g : Nat → Nat) (q : Nat) : Nat → Nat := fun k => g (131 + 8 * q + k)
theorem hr_app (g : Nat → Nat) (q k : Nat) : hr g q k = g (131 + 8 * q + k) := rfl
theorem e_0m1 : nI 0 - nI 1 = -nI 1 := by decide
theorem w_long {N : Nat} {g : Nat → Nat} (h : WS N g) {p : Nat} (hp : p < 6) : g (125 + p) ≤ 8 := h.1 p hp
theorem w_th {N : Nat} {g : Nat → Nat} (h : WS N g) {p k : Nat} (hp : p < 6) (hk : k < g (125 + p)) : g (131 + 8 * p + k) < g 0 := h.2.1 p hp k hk
theorem w_g0 {g : Nat → Nat} (h : WQ g) : g 0 ≤ 8 := h.1
theorem w_g1 {g : Nat → Nat} (h : WQ g) : g 1 ≤ 6 := h.2.1
theorem w_g2 {g : Nat → Nat} (h : WQ g) : g 2 ≤ 12 := h.2.2.1
theorem w_g3 {g : Nat → Nat} (h : WQ g) : g 3 ≤ 4 := h.2.2.2.1
theorem w_g4 {g : Nat → Nat} (h : WQ g) : 1 ≤ g 4 ∧ g 4 ≤ 20 := h.2.2.2.2.1
theorem w_hold {g : Nat → Nat} (h : WQ g) {i : Nat} (hi : i < g 0) : 1 ≤ g (5 + i) ∧ g (5 + i) ≤ 9 ∧ g (13 + i) ≤ 9 := h.2.2.2.2.2.1 i hi
theorem w_bear {g : Nat → Nat} (h : WQ g) {i : Nat} (hi : i < g 1) : 1 ≤ g (21 + i) ∧ g (21 + i) ≤ 99 := h.2.2.2.2.2.2.1 i hi
theorem w_daily {g : Nat → Nat} (h : WQ g) {i : Nat} (hi : i < g 2) : g (81 + i) < g 1 ∧ g (93 + i) < g 0 ∧ 1 ≤ g (105 + i) ∧ g (105 + i) ≤ 9 := h.2.2.2.2.2.2.2.1 i hi
theorem w_need {g : Nat → Nat} (h : WQ g) {i : Nat} (hi : i < g 3) : 1 ≤ g (117 + i) ∧ g (117 + i) ≤ 99 := h.2.2.2.2.2.2.2.2 i hi
/-! layers -/
section
variable {N : Nat} {g : Nat → Nat} {M V V2 : Ob}
theorem c_layer (hW : WS N g) (hS : SR V g) {p k : Nat} (hp : p < 6) (hk : k < g (125 + p)) : pX6_layerAt V (nI p) (nI k) = some (nI (g (131 + 8 * p + k))) := by
  have h1 := w_long hW hp
  unfold pX6_layerAt
  simp (disch := omega) only [l_0, l_1, l_2, l_3, l_4, l_5, l_6, l_7, l_8, l_9, l_10, l_11, l_12, l_13, l_14, l_15, l_16, l_17, l_18, l_19, l_20, l_21, l_22, l_23, l_24, l_25, l_26, l_27, l_28, l_29, l_30, l_31, l_32, l_33, l_34, l_35, l_36, l_40, l_41, l_48, l_56, l_57, l_59, l_60, l_61, l_62, l_63, l_79, l_81, l_88, l_93, l_97, l_99, l_105, l_117, l_121, l_122, l_125, l_127, l_131, l_179, l_185, l_193, l_197, l_200, l_201, l_210, l_255, l_390, l_400, l_616, l_900, l_940, l_999, l_1000, l_1024, e_ltT, e_ltF, e_leT, e_leF, e_eqT, e_eqF, e_cl, e_in, e_gd, e_bd, e_ne, e_en, e_nlt, e_ltn, e_len, e_nle, e_nn, e_z0, e_z1, nI_add, pk_mul, e_sub, Nf_app, e_refl, e_reflN, reduceIte, ite_true_, ite_false_, s_1 hS, s_0 hS]
theorem c_layer_out (hW : WS N g) (hS : SR V g) {p k : Nat} (hp : p < 6) (hk : g (125 + p) ≤ k) (hk2 : k < 1000) : pX6_layerAt V (nI p) (nI k) = some (-nI 1) := by
  have h1 := w_long hW hp
  unfold pX6_layerAt
  simp (disch := omega) only [l_0, l_1, l_2, l_3, l_4, l_5, l_6, l_7, l_8, l_9, l_10, l_11, l_12, l_13, l_14, l_15, l_16, l_17, l_18, l_19, l_20, l_21, l_22, l_23, l_24, l_25, l_26, l_27, l_28, l_29, l_30, l_31, l_32, l_33, l_34, l_35, l_36, l_40, l_41, l_48, l_56, l_57, l_59, l_60, l_61, l_62, l_63, l_79, l_81, l_88, l_93, l_97, l_99, l_105, l_117, l_121, l_122, l_125, l_127, l_131, l_179, l_185, l_193, l_197, l_200, l_201, l_210, l_255, l_390, l_400, l_616, l_900, l_940, l_999, l_1000, l_1024, e_ltT, e_ltF, e_leT, e_leF, e_eqT, e_eqF, e_cl, e_in, e_gd, e_bd, e_ne, e_en, e_nlt, e_ltn, e_len, e_nle, e_nn, e_z0, e_z1, nI_add, pk_mul, e_sub, Nf_app, e_refl, e_reflN, reduceIte, ite_true_, ite_false_, s_1 hS, s_0 hS]
theorem c_layer_neg {p : Nat} : pX6_layerAt V (nI p) (-nI 1) = some (-nI 1) := by
  unfold pX6_layerAt
  simp (disch := omega) only [l_0, l_1, l_2, l_3, l_4, l_5, l_6, l_7, l_8, l_9, l_10, l_11, l_12, l_13, l_14, l_15, l_16, l_17, l_18, l_19, l_20, l_21, l_22, l_23, l_24, l_25, l_26, l_27, l_28, l_29, l_30, l_31, l_32, l_33, l_34, l_35, l_36, l_40, l_41, l_48, l_56, l_57, l_59, l_60, l_61, l_62, l_63, l_79, l_81, l_88, l_93, l_97, l_99, l_105, l_117, l_121, l_122, l_125, l_127, l_131, l_179, l_185, l_193, l_197, l_200, l_201, l_210, l_255, l_390, l_400, l_616, l_900, l_940, l_999, l_1000, l_1024, e_ltT, e_ltF, e_leT, e_leF, e_eqT, e_eqF, e_cl, e_in, e_gd, e_bd, e_ne, e_en, e_nlt, e_ltn, e_len, e_nle, e_nn, e_z0, e_z1, nI_add, pk_mul, e_sub, Nf_app, e_refl, e_reflN, reduceIte, ite_true_, ite_false_, s_1]
theorem r_from (hW : WS N g) (hM : oA M 6 = Nf g) {q k : Nat} (hq : q < 6) (hk : k < g (125 + q)) : pX11_fromOutside M (nI q) (nI k) = some (nI (g (131 + 8 * q + (g (125 + q) - 1 - k)))) := by
  have h1 := w_long hW hq
  have e : 131 + 8 * q + g (125 + q) - 1 - k = 131 + 8 * q + (g (125 + q) - 1 - k) := by omega
  unfold pX11_fromOutside
  simp (disch := omega) only [l_0, l_1, l_2, l_3, l_4, l_5, l_6, l_7, l_8, l_9, l_10, l_11, l_12, l_13, l_14, l_15, l_16, l_17, l_18, l_19, l_20, l_21, l_22, l_23, l_24, l_25, l_26, l_27, l_28, l_29, l_30, l_31, l_32, l_33, l_34, l_35, l_36, l_40, l_41, l_48, l_56, l_57, l_59, l_60, l_61, l_62, l_63, l_79, l_81, l_88, l_93, l_97, l_99, l_105, l_117, l_121, l_122, l_125, l_127, l_131, l_179, l_185, l_193, l_197, l_200, l_201, l_210, l_255, l_390, l_400, l_616, l_900, l_940, l_999, l_1000, l_1024, e_ltT, e_ltF, e_leT, e_leF, e_eqT, e_eqF, e_cl, e_in, e_gd, e_bd, e_ne, e_en, e_nlt, e_ltn, e_len, e_nle, e_nn, e_z0, e_z1, nI_add, pk_mul, e_sub, Nf_app, e_refl, e_reflN, reduceIte, ite_true_, ite_false_, hM, e]
theorem r_from_out (hW : WS N g) (hM : oA M 6 = Nf g) {q k : Nat} (hq : q < 6) (hk : g (125 + q) ≤ k) (hk2 : k < 1000) : pX11_fromOutside M (nI q) (nI k) = some (-nI 1) := by
  have h1 := w_long hW hq
  unfold pX11_fromOutside
  simp (disch := omega) only [l_0, l_1, l_2, l_3, l_4, l_5, l_6, l_7, l_8, l_9, l_10, l_11, l_12, l_13, l_14, l_15, l_16, l_17, l_18, l_19, l_20, l_21, l_22, l_23, l_24, l_25, l_26, l_27, l_28, l_29, l_30, l_31, l_32, l_33, l_34, l_35, l_36, l_40, l_41, l_48, l_56, l_57, l_59, l_60, l_61, l_62, l_63, l_79, l_81, l_88, l_93, l_97, l_99, l_105, l_117, l_121, l_122, l_125, l_127, l_131, l_179, l_185, l_193, l_197, l_200, l_201, l_210, l_255, l_390, l_400, l_616, l_900, l_940, l_999, l_1000, l_1024, e_ltT, e_ltF, e_leT, e_leF, e_eqT, e_eqF, e_cl, e_in, e_gd, e_bd, e_ne, e_en, e_nlt, e_ltn, e_len, e_nle, e_nn, e_z0, e_z1, nI_add, pk_mul, e_sub, Nf_app, e_refl, e_reflN, reduceIte, ite_true_, ite_false_, hM]
/-! knots -/
def kn (g : Nat → Nat) (q top : Nat) : Nat := kr (hr g q) (hr g q (top - 1)) top
theorem kn_le (g : Nat → Nat) (q top : Nat) : kn g q top ≤ top := kr_le _ _ _
theorem kn_pos (g : Nat → Nat) (q : Nat) {top : Nat} (h : 0 < top) : 0 < kn g q top := kr_pos _ h
theorem r_knot_l (hQ : WQ g) (hW : WS N g) (hM : oA M 6 = Nf g) {q k : Nat} (hq : q < 6) (hk : k < g (125 + q)) : ∀ (n s : Nat), s ≤ g (125 + q) - k → g (125 + q) - k - s < n →
    pX11_knotAt_l2 M (nI q) (nI k) n (nI s) = some (nI (s + kr (hr g q) (g (131 + 8 * q + (g (125 + q) - 1 - k))) (g (125 + q) - k - s)))
  | 0, s, _, h => by omega
  | n + 1, s, h1, h2 => by
    have hL := w_long hW hq
    have hg := w_g0 hQ
    rw [pX11_knotAt_l2]
    by_cases hz : g (125 + q) - k - s = 0
    · rw [hz, kr]
      simp (disch := omega) only [l_0, l_1, l_2, l_3, l_4, l_5, l_6, l_7, l_8, l_9, l_10, l_11, l_12, l_13, l_14, l_15, l_16, l_17, l_18, l_19, l_20, l_21, l_22, l_23, l_24, l_25, l_26, l_27, l_28, l_29, l_30, l_31, l_32, l_33, l_34, l_35, l_36, l_40, l_41, l_48, l_56, l_57, l_59, l_60, l_61, l_62, l_63, l_79, l_81, l_88, l_93, l_97, l_99, l_105, l_117, l_121, l_122, l_125, l_127, l_131, l_179, l_185, l_193, l_197, l_200, l_201, l_210, l_255, l_390, l_400, l_616, l_900, l_940, l_999, l_1000, l_1024, e_ltT, e_ltF, e_leT, e_leF, e_eqT, e_eqF, e_cl, e_in, e_gd, e_bd, e_ne, e_en, e_nlt, e_ltn, e_len, e_nle, e_nn, e_z0, e_z1, nI_add, pk_mul, e_sub, Nf_app, e_refl, e_reflN, reduceIte, ite_true_, ite_false_, hM]
      rfl
    · obtain ⟨m, hm⟩ : ∃ m, g (125 + q) - k - s = m + 1 := ⟨g (125 + q) - k - s - 1, by omega⟩
      have hm2 : g (125 + q) - 1 - (k + s) = m := by omega
      have ih := r_knot_l hQ hW hM hq hk n (s + 1) (by omega) (by omega)
      have hm3 : g (125 + q) - k - (s + 1) = m := by omega
      rw [hm3] at ih
      have t1 := w_th hW hq (k := m) (by omega)
      have t2 := w_th hW hq (k := g (125 + q) - 1 - k) (by omega)
      rw [hm, kr, hr_app]
      by_cases hv : g (131 + 8 * q + m) = g (131 + 8 * q + (g (125 + q) - 1 - k))
      · rw [if_pos hv]
        simp (disch := omega) only [l_0, l_1, l_2, l_3, l_4, l_5, l_6, l_7, l_8, l_9, l_10, l_11, l_12, l_13, l_14, l_15, l_16, l_17, l_18, l_19, l_20, l_21, l_22, l_23, l_24, l_25, l_26, l_27, l_28, l_29, l_30, l_31, l_32, l_33, l_34, l_35, l_36, l_40, l_41, l_48, l_56, l_57, l_59, l_60, l_61, l_62, l_63, l_79, l_81, l_88, l_93, l_97, l_99, l_105, l_117, l_121, l_122, l_125, l_127, l_131, l_179, l_185, l_193, l_197, l_200, l_201, l_210, l_255, l_390, l_400, l_616, l_900, l_940, l_999, l_1000, l_1024, e_ltT, e_ltF, e_leT, e_leF, e_eqT, e_eqF, e_cl, e_in, e_gd, e_bd, e_ne, e_en, e_nlt, e_ltn, e_len, e_nle, e_nn, e_z0, e_z1, nI_add, pk_mul, e_sub, Nf_app, e_refl, e_reflN, reduceIte, ite_true_, ite_false_, hM, r_from hW hM hq, hm2, ih]
        congr 2; omega
      · rw [if_neg hv]
        simp (disch := omega) only [l_0, l_1, l_2, l_3, l_4, l_5, l_6, l_7, l_8, l_9, l_10, l_11, l_12, l_13, l_14, l_15, l_16, l_17, l_18, l_19, l_20, l_21, l_22, l_23, l_24, l_25, l_26, l_27, l_28, l_29, l_30, l_31, l_32, l_33, l_34, l_35, l_36, l_40, l_41, l_48, l_56, l_57, l_59, l_60, l_61, l_62, l_63, l_79, l_81, l_88, l_93, l_97, l_99, l_105, l_117, l_121, l_122, l_125, l_127, l_131, l_179, l_185, l_193, l_197, l_200, l_201, l_210, l_255, l_390, l_400, l_616, l_900, l_940, l_999, l_1000, l_1024, e_ltT, e_ltF, e_leT, e_leF, e_eqT, e_eqF, e_cl, e_in, e_gd, e_bd, e_ne, e_en, e_nlt, e_ltn, e_len, e_nle, e_nn, e_z0, e_z1, nI_add, pk_mul, e_sub, Nf_app, e_refl, e_reflN, reduceIte, ite_true_, ite_false_, hM, r_from hW hM hq, hm2]
        rfl
theorem r_knot (hQ : WQ g) (hW : WS N g) (hM : oA M 6 = Nf g) {q k : Nat} (hq : q < 6) (hk : k < g (125 + q)) : pX11_knotAt M (nI q) (nI k) = some (nI (kn g q (g (125 + q) - k))) := by
  have hL := w_long hW hq
  unfold pX11_knotAt
  have h := r_knot_l hQ hW hM hq hk fu 0 (by omega) (by rw [fu_eq]; omega)
  have e : g (125 + q) - k - 1 = g (125 + q) - 1 - k := by omega
  rw [Nat.sub_zero, Nat.zero_add] at h
  rw [l_0, h, e_bd, kn, hr_app, e]
theorem c_knot_l (hQ : WQ g) (hW : WS N g) (hS : SR V g) {p top : Nat} (hp : p < 6) (ht : top ≤ g (125 + p)) : ∀ (n s : Nat), s ≤ top → top - s < n →
    pX6_knotBelow_l12 V (nI p) (nI top) (nI (p * 8 + top - 1)) n (nI s) = some (nI (s + kr (hr g p) (g (131 + 8 * p + (top - 1))) (top - s)))
  | 0, s, _, h => by omega
  | n + 1, s, h1, h2 => by
    have hL := w_long hW hp
    have hg := w_g0 hQ
    rw [pX6_knotBelow_l12]
    by_cases hz : top - s = 0
    · rw [hz, kr]
      simp (disch := omega) only [l_0, l_1, l_2, l_3, l_4, l_5, l_6, l_7, l_8, l_9, l_10, l_11, l_12, l_13, l_14, l_15, l_16, l_17, l_18, l_19, l_20, l_21, l_22, l_23, l_24, l_25, l_26, l_27, l_28, l_29, l_30, l_31, l_32, l_33, l_34, l_35, l_36, l_40, l_41, l_48, l_56, l_57, l_59, l_60, l_61, l_62, l_63, l_79, l_81, l_88, l_93, l_97, l_99, l_105, l_117, l_121, l_122, l_125, l_127, l_131, l_179, l_185, l_193, l_197, l_200, l_201, l_210, l_255, l_390, l_400, l_616, l_900, l_940, l_999, l_1000, l_1024, e_ltT, e_ltF, e_leT, e_leF, e_eqT, e_eqF, e_cl, e_in, e_gd, e_bd, e_ne, e_en, e_nlt, e_ltn, e_len, e_nle, e_nn, e_z0, e_z1, nI_add, pk_mul, e_sub, Nf_app, e_refl, e_reflN, reduceIte, ite_true_, ite_false_, s_1 hS]
      rfl
    · obtain ⟨m, hm⟩ : ∃ m, top - s = m + 1 := ⟨top - s - 1, by omega⟩
      have ih := c_knot_l hQ hW hS hp ht n (s + 1) (by omega) (by omega)
      have hm3 : top - (s + 1) = m := by omega
      rw [hm3] at ih
      have a1 : oA V 0 (p * 8 + top - 1 - s) = nI (g (131 + 8 * p + m)) := by
        have e : p * 8 + top - 1 - s = p * 8 + m := by omega
        rw [e]; exact s_0 hS p hp m (by omega)
      have a2 : oA V 0 (p * 8 + top - 1) = nI (g (131 + 8 * p + (top - 1))) := by
        have e : p * 8 + top - 1 = p * 8 + (top - 1) := by omega
        rw [e]; exact s_0 hS p hp _ (by omega)
      have t1 := w_th hW hp (k := m) (by omega)
      have t2 := w_th hW hp (k := top - 1) (by omega)
      rw [hm, kr, hr_app]
      by_cases hv : g (131 + 8 * p + m) = g (131 + 8 * p + (top - 1))
      · rw [if_pos hv]
        simp (disch := omega) only [l_0, l_1, l_2, l_3, l_4, l_5, l_6, l_7, l_8, l_9, l_10, l_11, l_12, l_13, l_14, l_15, l_16, l_17, l_18, l_19, l_20, l_21, l_22, l_23, l_24, l_25, l_26, l_27, l_28, l_29, l_30, l_31, l_32, l_33, l_34, l_35, l_36, l_40, l_41, l_48, l_56, l_57, l_59, l_60, l_61, l_62, l_63, l_79, l_81, l_88, l_93, l_97, l_99, l_105, l_117, l_121, l_122, l_125, l_127, l_131, l_179, l_185, l_193, l_197, l_200, l_201, l_210, l_255, l_390, l_400, l_616, l_900, l_940, l_999, l_1000, l_1024, e_ltT, e_ltF, e_leT, e_leF, e_eqT, e_eqF, e_cl, e_in, e_gd, e_bd, e_ne, e_en, e_nlt, e_ltn, e_len, e_nle, e_nn, e_z0, e_z1, nI_add, pk_mul, e_sub, Nf_app, e_refl, e_reflN, reduceIte, ite_true_, ite_false_, s_1 hS, a1, a2, ih]
        congr 2; omega
      · rw [if_neg hv]
        simp (disch := omega) only [l_0, l_1, l_2, l_3, l_4, l_5, l_6, l_7, l_8, l_9, l_10, l_11, l_12, l_13, l_14, l_15, l_16, l_17, l_18, l_19, l_20, l_21, l_22, l_23, l_24, l_25, l_26, l_27, l_28, l_29, l_30, l_31, l_32, l_33, l_34, l_35, l_36, l_40, l_41, l_48, l_56, l_57, l_59, l_60, l_61, l_62, l_63, l_79, l_81, l_88, l_93, l_97, l_99, l_105, l_117, l_121, l_122, l_125, l_127, l_131, l_179, l_185, l_193, l_197, l_200, l_201, l_210, l_255, l_390, l_400, l_616, l_900, l_940, l_999, l_1000, l_1024, e_ltT, e_ltF, e_leT, e_leF, e_eqT, e_eqF, e_cl, e_in, e_gd, e_bd, e_ne, e_en, e_nlt, e_ltn, e_len, e_nle, e_nn, e_z0, e_z1, nI_add, pk_mul, e_sub, Nf_app, e_refl, e_reflN, reduceIte, ite_true_, ite_false_, s_1 hS, a1, a2]
        rfl
theorem c_knot (hQ : WQ g) (hW : WS N g) (hS : SR V g) {p top : Nat} (hp : p < 6) (ht : top ≤ g (125 + p)) : pX6_knotBelow V (nI p) (nI top) = some (nI (kn g p top)) := by
  have hL := w_long hW hp
  unfold pX6_knotBelow
  by_cases h0 : top = 0
  · subst h0
    have : pX6_knotBelow_l12 V (nI p) (nI 0) (nI p * nI 8 + nI 0 - nI 1) fu (nI 0) = some (nI 0) := by
      rw [fu_eq, pX6_knotBelow_l12]
      simp (disch := omega) only [l_0, l_1, l_2, l_3, l_4, l_5, l_6, l_7, l_8, l_9, l_10, l_11, l_12, l_13, l_14, l_15, l_16, l_17, l_18, l_19, l_20, l_21, l_22, l_23, l_24, l_25, l_26, l_27, l_28, l_29, l_30, l_31, l_32, l_33, l_34, l_35, l_36, l_40, l_41, l_48, l_56, l_57, l_59, l_60, l_61, l_62, l_63, l_79, l_81, l_88, l_93, l_97, l_99, l_105, l_117, l_121, l_122, l_125, l_127, l_131, l_179, l_185, l_193, l_197, l_200, l_201, l_210, l_255, l_390, l_400, l_616, l_900, l_940, l_999, l_1000, l_1024, e_ltT, e_ltF, e_leT, e_leF, e_eqT, e_eqF, e_cl, e_in, e_gd, e_bd, e_ne, e_en, e_nlt, e_ltn, e_len, e_nle, e_nn, e_z0, e_z1, nI_add, pk_mul, e_sub, Nf_app, e_refl, e_reflN, reduceIte, ite_true_, ite_false_, s_1]
    simp only [l_0, l_8, l_1, this, e_bd]
    rfl
  · have h := c_knot_l hQ hW hS hp ht fu 0 (by omega) (by rw [fu_eq]; omega)
    rw [Nat.sub_zero, Nat.zero_add] at h
    simp (disch := omega) only [l_0, l_1, l_2, l_3, l_4, l_5, l_6, l_7, l_8, l_9, l_10, l_11, l_12, l_13, l_14, l_15, l_16, l_17, l_18, l_19, l_20, l_21, l_22, l_23, l_24, l_25, l_26, l_27, l_28, l_29, l_30, l_31, l_32, l_33, l_34, l_35, l_36, l_40, l_41, l_48, l_56, l_57, l_59, l_60, l_61, l_62, l_63, l_79, l_81, l_88, l_93, l_97, l_99, l_105, l_117, l_121, l_122, l_125, l_127, l_131, l_179, l_185, l_193, l_197, l_200, l_201, l_210, l_255, l_390, l_400, l_616, l_900, l_940, l_999, l_1000, l_1024, e_ltT, e_ltF, e_leT, e_leF, e_eqT, e_eqF, e_cl, e_in, e_gd, e_bd, e_ne, e_en, e_nlt, e_ltn, e_len, e_nle, e_nn, e_z0, e_z1, nI_add, pk_mul, e_sub, Nf_app, e_refl, e_reflN, reduceIte, ite_true_, ite_false_, h]
    rfl
/-- what the knot below top holds -/
def kh (g : Nat → Nat) (q top : Nat) : Nat := kn g q top * g (5 + hr g q (top - 1))
theorem kh_le (hQ : WQ g) (hW : WS N g) {q top : Nat} (hq : q < 6) (ht : top ≤ g (125 + q)) : kh g q top ≤ 72 := by
  have hL := w_long hW hq
  by_cases h0 : top = 0
  · subst h0; simp [kh, kn, kr]
  · have t := w_th hW hq (k := top - 1) (by omega)
    have h1 := (w_hold hQ t).2.1
    have h2 := kn_le g q top
    have : kn g q top * g (5 + hr g q (top - 1)) ≤ 8 * 9 := Nat.mul_le_mul (by omega) h1
    exact this
theorem kh_pos (hQ : WQ g) (hW : WS N g) {q top : Nat} (hq : q < 6) (ht : top ≤ g (125 + q)) (h0 : 0 < top) : 0 < kh g q top := by
  have t := w_th hW hq (k := top - 1) (by omega)
  have h1 := (w_hold hQ t).1
  exact Nat.mul_pos (kn_pos g q h0) (by exact h1)
theorem r_kh (hQ : WQ g) (hW : WS N g) (hM : oA M 6 = Nf g) {q k : Nat} (hq : q < 6) (hk : k < g (125 + q)) : pX11_knotHolds M (nI q) (nI k) = some (nI (kh g q (g (125 + q) - k))) := by
  have hL := w_long hW hq
  have hg := w_g0 hQ
  have t := w_th hW hq (k := g (125 + q) - 1 - k) (by omega)
  have e : g (125 + q) - k - 1 = g (125 + q) - 1 - k := by omega
  unfold pX11_knotHolds
  simp (disch := omega) only [l_0, l_1, l_2, l_3, l_4, l_5, l_6, l_7, l_8, l_9, l_10, l_11, l_12, l_13, l_14, l_15, l_16, l_17, l_18, l_19, l_20, l_21, l_22, l_23, l_24, l_25, l_26, l_27, l_28, l_29, l_30, l_31, l_32, l_33, l_34, l_35, l_36, l_40, l_41, l_48, l_56, l_57, l_59, l_60, l_61, l_62, l_63, l_79, l_81, l_88, l_93, l_97, l_99, l_105, l_117, l_121, l_122, l_125, l_127, l_131, l_179, l_185, l_193, l_197, l_200, l_201, l_210, l_255, l_390, l_400, l_616, l_900, l_940, l_999, l_1000, l_1024, e_ltT, e_ltF, e_leT, e_leF, e_eqT, e_eqF, e_cl, e_in, e_gd, e_bd, e_ne, e_en, e_nlt, e_ltn, e_len, e_nle, e_nn, e_z0, e_z1, nI_add, pk_mul, e_sub, Nf_app, e_refl, e_reflN, reduceIte, ite_true_, ite_false_, hM, r_knot hQ hW hM hq hk, r_from hW hM hq hk]
  rw [kh, hr_app, e]
theorem r_kh_out (hW : WS N g) (hM : oA M 6 = Nf g) {q k : Nat} (hq : q < 6) (hk : g (125 + q) ≤ k) (hk2 : k < 1000) : pX11_knotHolds M (nI q) (nI k) = some (nI 0) := by
  have hL := w_long hW hq
  unfold pX11_knotHolds
  simp (disch := omega) only [l_0, l_1, l_2, l_3, l_4, l_5, l_6, l_7, l_8, l_9, l_10, l_11, l_12, l_13, l_14, l_15, l_16, l_17, l_18, l_19, l_20, l_21, l_22, l_23, l_24, l_25, l_26, l_27, l_28, l_29, l_30, l_31, l_32, l_33, l_34, l_35, l_36, l_40, l_41, l_48, l_56, l_57, l_59, l_60, l_61, l_62, l_63, l_79, l_81, l_88, l_93, l_97, l_99, l_105, l_117, l_121, l_122, l_125, l_127, l_131, l_179, l_185, l_193, l_197, l_200, l_201, l_210, l_255, l_390, l_400, l_616, l_900, l_940, l_999, l_1000, l_1024, e_ltT, e_ltF, e_leT, e_leF, e_eqT, e_eqF, e_cl, e_in, e_gd, e_bd, e_ne, e_en, e_nlt, e_ltn, e_len, e_nle, e_nn, e_z0, e_z1, nI_add, pk_mul, e_sub, Nf_app, e_refl, e_reflN, reduceIte, ite_true_, ite_false_, hM]
theorem c_holdAt (hQ : WQ g) (hW : WS N g) (hR : QR V2 g) (hS : SR V g) {p k : Nat} (hp : p < 6) (hk : k < g (125 + p)) : pX6_holdAt V V2 (nI p) (nI k) = some (nI (g (5 + g (131 + 8 * p + k)))) := by
  have t := w_th hW hp hk
  have hg := w_g0 hQ
  unfold pX6_holdAt
  simp (disch := omega) only [l_0, l_1, l_2, l_3, l_4, l_5, l_6, l_7, l_8, l_9, l_10, l_11, l_12, l_13, l_14, l_15, l_16, l_17, l_18, l_19, l_20, l_21, l_22, l_23, l_24, l_25, l_26, l_27, l_28, l_29, l_30, l_31, l_32, l_33, l_34, l_35, l_36, l_40, l_41, l_48, l_56, l_57, l_59, l_60, l_61, l_62, l_63, l_79, l_81, l_88, l_93, l_97, l_99, l_105, l_117, l_121, l_122, l_125, l_127, l_131, l_179, l_185, l_193, l_197, l_200, l_201, l_210, l_255, l_390, l_400, l_616, l_900, l_940, l_999, l_1000, l_1024, e_ltT, e_ltF, e_leT, e_leF, e_eqT, e_eqF, e_cl, e_in, e_gd, e_bd, e_ne, e_en, e_nlt, e_ltn, e_len, e_nle, e_nn, e_z0, e_z1, nI_add, pk_mul, e_sub, Nf_app, e_refl, e_reflN, reduceIte, ite_true_, ite_false_, c_layer hW hS hp hk, q_2 hR]
theorem c_oh (hQ : WQ g) (hW : WS N g) (hR : QR V2 g) (hS : SR V g) {p : Nat} (hp : p < 6) : pX6_outsideHolds V V2 (nI p) = some (nI (kh g p (g (125 + p)))) := by
  have hL := w_long hW hp
  have hg := w_g0 hQ
  unfold pX6_outsideHolds
  by_cases h0 : g (125 + p) = 0
  · have hk : kn g p 0 = 0 := rfl
    have hh : pX6_holdAt V V2 (nI p) (-nI 1) = some (nI 0) := by
      unfold pX6_holdAt
      simp (disch := omega) only [l_0, l_1, l_2, l_3, l_4, l_5, l_6, l_7, l_8, l_9, l_10, l_11, l_12, l_13, l_14, l_15, l_16, l_17, l_18, l_19, l_20, l_21, l_22, l_23, l_24, l_25, l_26, l_27, l_28, l_29, l_30, l_31, l_32, l_33, l_34, l_35, l_36, l_40, l_41, l_48, l_56, l_57, l_59, l_60, l_61, l_62, l_63, l_79, l_81, l_88, l_93, l_97, l_99, l_105, l_117, l_121, l_122, l_125, l_127, l_131, l_179, l_185, l_193, l_197, l_200, l_201, l_210, l_255, l_390, l_400, l_616, l_900, l_940, l_999, l_1000, l_1024, e_ltT, e_ltF, e_leT, e_leF, e_eqT, e_eqF, e_cl, e_in, e_gd, e_bd, e_ne, e_en, e_nlt, e_ltn, e_len, e_nle, e_nn, e_z0, e_z1, nI_add, pk_mul, e_sub, Nf_app, e_refl, e_reflN, reduceIte, ite_true_, ite_false_, c_layer_neg]
    simp (disch := omega) only [l_0, l_1, l_2, l_3, l_4, l_5, l_6, l_7, l_8, l_9, l_10, l_11, l_12, l_13, l_14, l_15, l_16, l_17, l_18, l_19, l_20, l_21, l_22, l_23, l_24, l_25, l_26, l_27, l_28, l_29, l_30, l_31, l_32, l_33, l_34, l_35, l_36, l_40, l_41, l_48, l_56, l_57, l_59, l_60, l_61, l_62, l_63, l_79, l_81, l_88, l_93, l_97, l_99, l_105, l_117, l_121, l_122, l_125, l_127, l_131, l_179, l_185, l_193, l_197, l_200, l_201, l_210, l_255, l_390, l_400, l_616, l_900, l_940, l_999, l_1000, l_1024, e_ltT, e_ltF, e_leT, e_leF, e_eqT, e_eqF, e_cl, e_in, e_gd, e_bd, e_ne, e_en, e_nlt, e_ltn, e_len, e_nle, e_nn, e_z0, e_z1, nI_add, pk_mul, e_sub, Nf_app, e_refl, e_reflN, reduceIte, ite_true_, ite_false_, s_1 hS, h0, c_knot hQ hW hS hp (top := 0), e_0m1, hh, hk, kh, Nat.zero_mul]
  · simp (disch := omega) only [l_0, l_1, l_2, l_3, l_4, l_5, l_6, l_7, l_8, l_9, l_10, l_11, l_12, l_13, l_14, l_15, l_16, l_17, l_18, l_19, l_20, l_21, l_22, l_23, l_24, l_25, l_26, l_27, l_28, l_29, l_30, l_31, l_32, l_33, l_34, l_35, l_36, l_40, l_41, l_48, l_56, l_57, l_59, l_60, l_61, l_62, l_63, l_79, l_81, l_88, l_93, l_97, l_99, l_105, l_117, l_121, l_122, l_125, l_127, l_131, l_179, l_185, l_193, l_197, l_200, l_201, l_210, l_255, l_390, l_400, l_616, l_900, l_940, l_999, l_1000, l_1024, e_ltT, e_ltF, e_leT, e_leF, e_eqT, e_eqF, e_cl, e_in, e_gd, e_bd, e_ne, e_en, e_nlt, e_ltn, e_len, e_nle, e_nn, e_z0, e_z1, nI_add, pk_mul, e_sub, Nf_app, e_refl, e_reflN, reduceIte, ite_true_, ite_false_, s_1 hS, c_knot hQ hW hS hp (top := g (125 + p)), c_holdAt hQ hW hR hS hp]
    rfl
theorem r_knots_l (hQ : WQ g) (hW : WS N g) (hM : oA M 6 = Nf g) {q : Nat} (hq : q < 6) : ∀ (n k c : Nat), k ≤ g (125 + q) → g (125 + q) - k < n →
    pX11_knotsOf_l4 M (nI q) n (nI c) (nI k) = some (nI (c + kc (hr g q) (g (125 + q) - k)))
  | 0, _, _, _, h => by omega
  | n + 1, k, c, h1, h2 => by
    have hL := w_long hW hq
    rw [pX11_knotsOf_l4]
    by_cases hz : k = g (125 + q)
    · have e : g (125 + q) - k = 0 := by omega
      rw [e, kc]
      simp (disch := omega) only [l_0, l_1, l_2, l_3, l_4, l_5, l_6, l_7, l_8, l_9, l_10, l_11, l_12, l_13, l_14, l_15, l_16, l_17, l_18, l_19, l_20, l_21, l_22, l_23, l_24, l_25, l_26, l_27, l_28, l_29, l_30, l_31, l_32, l_33, l_34, l_35, l_36, l_40, l_41, l_48, l_56, l_57, l_59, l_60, l_61, l_62, l_63, l_79, l_81, l_88, l_93, l_97, l_99, l_105, l_117, l_121, l_122, l_125, l_127, l_131, l_179, l_185, l_193, l_197, l_200, l_201, l_210, l_255, l_390, l_400, l_616, l_900, l_940, l_999, l_1000, l_1024, e_ltT, e_ltF, e_leT, e_leF, e_eqT, e_eqF, e_cl, e_in, e_gd, e_bd, e_ne, e_en, e_nlt, e_ltn, e_len, e_nle, e_nn, e_z0, e_z1, nI_add, pk_mul, e_sub, Nf_app, e_refl, e_reflN, reduceIte, ite_true_, ite_false_, hM]
      rfl
    · have hk : k < g (125 + q) := by omega
      have p1 := kn_pos g q (top := g (125 + q) - k) (by omega)
      have p2 := kn_le g q (g (125 + q) - k)
      have ih := r_knots_l hQ hW hM hq n (k + kn g q (g (125 + q) - k)) (c + 1) (by omega) (by omega)
      simp (disch := omega) only [l_0, l_1, l_2, l_3, l_4, l_5, l_6, l_7, l_8, l_9, l_10, l_11, l_12, l_13, l_14, l_15, l_16, l_17, l_18, l_19, l_20, l_21, l_22, l_23, l_24, l_25, l_26, l_27, l_28, l_29, l_30, l_31, l_32, l_33, l_34, l_35, l_36, l_40, l_41, l_48, l_56, l_57, l_59, l_60, l_61, l_62, l_63, l_79, l_81, l_88, l_93, l_97, l_99, l_105, l_117, l_121, l_122, l_125, l_127, l_131, l_179, l_185, l_193, l_197, l_200, l_201, l_210, l_255, l_390, l_400, l_616, l_900, l_940, l_999, l_1000, l_1024, e_ltT, e_ltF, e_leT, e_leF, e_eqT, e_eqF, e_cl, e_in, e_gd, e_bd, e_ne, e_en, e_nlt, e_ltn, e_len, e_nle, e_nn, e_z0, e_z1, nI_add, pk_mul, e_sub, Nf_app, e_refl, e_reflN, reduceIte, ite_true_, ite_false_, hM, r_knot hQ hW hM hq hk, ih]
      have e2 : g (125 + q) - (k + kn g q (g (125 + q) - k)) = g (125 + q) - k - kr (hr g q) (hr g q (g (125 + q) - k - 1)) (g (125 + q) - k) := by unfold kn; omega
      rw [kc_run (hr g q) (hr g q (g (125 + q) - k - 1)) (t := g (125 + q) - k) (by omega) rfl, e2]
      congr 2; omega
theorem r_knots (hQ : WQ g) (hW : WS N g) (hM : oA M 6 = Nf g) {q : Nat} (hq : q < 6) : pX11_knotsOf M (nI q) = some (nI (kc (hr g q) (g (125 + q)))) := by
  have hL := w_long hW hq
  have h := r_knots_l hQ hW hM hq fu 0 0 (by omega) (by rw [fu_eq]; omega)
  rw [Nat.sub_zero, Nat.zero_add] at h
  unfold pX11_knotsOf
  rw [l_0, h, e_bd]
theorem c_knots_l (hQ : WQ g) (hW : WS N g) (hS : SR V g) {p : Nat} (hp : p < 6) : ∀ (n k : Nat), k ≤ g (125 + p) → g (125 + p) - k < n →
    pX6_knotsOf_l4 V (nI p) n (nI (kc (hr g p) k)) (nI k) = some (nI (kc (hr g p) (g (125 + p))))
  | 0, _, _, h => by omega
  | n + 1, k, h1, h2 => by
    have hL := w_long hW hp
    have hg := w_g0 hQ
    rw [pX6_knotsOf_l4]
    by_cases hz : k = g (125 + p)
    · simp (disch := omega) only [l_0, l_1, l_2, l_3, l_4, l_5, l_6, l_7, l_8, l_9, l_10, l_11, l_12, l_13, l_14, l_15, l_16, l_17, l_18, l_19, l_20, l_21, l_22, l_23, l_24, l_25, l_26, l_27, l_28, l_29, l_30, l_31, l_32, l_33, l_34, l_35, l_36, l_40, l_41, l_48, l_56, l_57, l_59, l_60, l_61, l_62, l_63, l_79, l_81, l_88, l_93, l_97, l_99, l_105, l_117, l_121, l_122, l_125, l_127, l_131, l_179, l_185, l_193, l_197, l_200, l_201, l_210, l_255, l_390, l_400, l_616, l_900, l_940, l_999, l_1000, l_1024, e_ltT, e_ltF, e_leT, e_leF, e_eqT, e_eqF, e_cl, e_in, e_gd, e_bd, e_ne, e_en, e_nlt, e_ltn, e_len, e_nle, e_nn, e_z0, e_z1, nI_add, pk_mul, e_sub, Nf_app, e_refl, e_reflN, reduceIte, ite_true_, ite_false_, s_1 hS]
      rw [hz]
    · have hk : k < g (125 + p) := by omega
      have ih := c_knots_l hQ hW hS hp n (k + 1) (by omega) (by omega)
      have t1 := w_th hW hp hk
      rw [kc, hr_app, hr_app] at ih
      by_cases h0 : k = 0
      · subst h0
        rw [if_pos (Or.inl rfl)] at ih
        simp (disch := omega) only [l_0, l_1, l_2, l_3, l_4, l_5, l_6, l_7, l_8, l_9, l_10, l_11, l_12, l_13, l_14, l_15, l_16, l_17, l_18, l_19, l_20, l_21, l_22, l_23, l_24, l_25, l_26, l_27, l_28, l_29, l_30, l_31, l_32, l_33, l_34, l_35, l_36, l_40, l_41, l_48, l_56, l_57, l_59, l_60, l_61, l_62, l_63, l_79, l_81, l_88, l_93, l_97, l_99, l_105, l_117, l_121, l_122, l_125, l_127, l_131, l_179, l_185, l_193, l_197, l_200, l_201, l_210, l_255, l_390, l_400, l_616, l_900, l_940, l_999, l_1000, l_1024, e_ltT, e_ltF, e_leT, e_leF, e_eqT, e_eqF, e_cl, e_in, e_gd, e_bd, e_ne, e_en, e_nlt, e_ltn, e_len, e_nle, e_nn, e_z0, e_z1, nI_add, pk_mul, e_sub, Nf_app, e_refl, e_reflN, reduceIte, ite_true_, ite_false_, s_1 hS, c_layer hW hS hp hk, e_0m1, c_layer_neg, ih]
      · have t2 := w_th hW hp (k := k - 1) (by omega)
        by_cases hv : g (131 + 8 * p + k) = g (131 + 8 * p + (k - 1))
        · rw [if_neg (by omega), Nat.add_zero] at ih
          simp (disch := omega) only [l_0, l_1, l_2, l_3, l_4, l_5, l_6, l_7, l_8, l_9, l_10, l_11, l_12, l_13, l_14, l_15, l_16, l_17, l_18, l_19, l_20, l_21, l_22, l_23, l_24, l_25, l_26, l_27, l_28, l_29, l_30, l_31, l_32, l_33, l_34, l_35, l_36, l_40, l_41, l_48, l_56, l_57, l_59, l_60, l_61, l_62, l_63, l_79, l_81, l_88, l_93, l_97, l_99, l_105, l_117, l_121, l_122, l_125, l_127, l_131, l_179, l_185, l_193, l_197, l_200, l_201, l_210, l_255, l_390, l_400, l_616, l_900, l_940, l_999, l_1000, l_1024, e_ltT, e_ltF, e_leT, e_leF, e_eqT, e_eqF, e_cl, e_in, e_gd, e_bd, e_ne, e_en, e_nlt, e_ltn, e_len, e_nle, e_nn, e_z0, e_z1, nI_add, pk_mul, e_sub, Nf_app, e_refl, e_reflN, reduceIte, ite_true_, ite_false_, s_1 hS, c_layer hW hS hp, ih]
        · rw [if_pos (Or.inr hv)] at ih
          simp (disch := omega) only [l_0, l_1, l_2, l_3, l_4, l_5, l_6, l_7, l_8, l_9, l_10, l_11, l_12, l_13, l_14, l_15, l_16, l_17, l_18, l_19, l_20, l_21, l_22, l_23, l_24, l_25, l_26, l_27, l_28, l_29, l_30, l_31, l_32, l_33, l_34, l_35, l_36, l_40, l_41, l_48, l_56, l_57, l_59, l_60, l_61, l_62, l_63, l_79, l_81, l_88, l_93, l_97, l_99, l_105, l_117, l_121, l_122, l_125, l_127, l_131, l_179, l_185, l_193, l_197, l_200, l_201, l_210, l_255, l_390, l_400, l_616, l_900, l_940, l_999, l_1000, l_1024, e_ltT, e_ltF, e_leT, e_leF, e_eqT, e_eqF, e_cl, e_in, e_gd, e_bd, e_ne, e_en, e_nlt, e_ltn, e_len, e_nle, e_nn, e_z0, e_z1, nI_add, pk_mul, e_sub, Nf_app, e_refl, e_reflN, reduceIte, ite_true_, ite_false_, s_1 hS, c_layer hW hS hp, ih]
theorem c_knots (hQ : WQ g) (hW : WS N g) (hS : SR V g) {p : Nat} (hp : p < 6) : pX6_knotsOf V (nI p) = some (nI (kc (hr g p) (g (125 + p)))) := by
  have hL := w_long hW hp
  have h := c_knots_l hQ hW hS hp fu 0 (by omega) (by rw [fu_eq]; omega)
  unfold pX6_knotsOf
  rw [l_0]
  rw [kc] at h
  rw [h, e_bd]
/-- what all holds -/
def hs (g : Nat → Nat) (q : Nat) : Nat := sm (fun k => g (5 + hr g q k)) (g (125 + q))
theorem hs_le (hQ : WQ g) (hW : WS N g) {q : Nat} (hq : q < 6) : hs g q ≤ 72 := by
  have hL := w_long hW hq
  have h := sm_le (f := fun k => g (5 + hr g q k)) (c := 9) (n := g (125 + q)) (fun k hk => (w_hold hQ (w_th hW hq hk)).2.1)
  unfold hs; omega
theorem sm_mono (f : Nat → Nat) {m : Nat} : ∀ {n : Nat}, m ≤ n → sm f m ≤ sm f n
  | 0, h => by have : m = 0 := by omega
               rw [this]; exact Nat.le_refl _
  | n + 1, h => by
    by_cases e : m = n + 1
    · rw [e]; exact Nat.le_refl _
    · have := sm_mono f (m := m) (n := n) (by omega)
      rw [sm]; omega
theorem r_holds_l (hQ : WQ g) (hW : WS N g) (hM : oA M 6 = Nf g) {q : Nat} (hq : q < 6) : ∀ (n k : Nat), k ≤ g (125 + q) → g (125 + q) - k < n →
    pX11_holdsOf_l4 M (nI q) n (nI (sm (fun j => g (5 + hr g q (g (125 + q) - 1 - j))) k)) (nI k) = some (nI (sm (fun j => g (5 + hr g q (g (125 + q) - 1 - j))) (g (125 + q))))
  | 0, _, _, h => by omega
  | n + 1, k, h1, h2 => by
    have hL := w_long hW hq
    have hg := w_g0 hQ
    rw [pX11_holdsOf_l4]
    by_cases hz : k = g (125 + q)
    · simp (disch := omega) only [l_0, l_1, l_2, l_3, l_4, l_5, l_6, l_7, l_8, l_9, l_10, l_11, l_12, l_13, l_14, l_15, l_16, l_17, l_18, l_19, l_20, l_21, l_22, l_23, l_24, l_25, l_26, l_27, l_28, l_29, l_30, l_31, l_32, l_33, l_34, l_35, l_36, l_40, l_41, l_48, l_56, l_57, l_59, l_60, l_61, l_62, l_63, l_79, l_81, l_88, l_93, l_97, l_99, l_105, l_117, l_121, l_122, l_125, l_127, l_131, l_179, l_185, l_193, l_197, l_200, l_201, l_210, l_255, l_390, l_400, l_616, l_900, l_940, l_999, l_1000, l_1024, e_ltT, e_ltF, e_leT, e_leF, e_eqT, e_eqF, e_cl, e_in, e_gd, e_bd, e_ne, e_en, e_nlt, e_ltn, e_len, e_nle, e_nn, e_z0, e_z1, nI_add, pk_mul, e_sub, Nf_app, e_refl, e_reflN, reduceIte, ite_true_, ite_false_, hM]
      rw [hz]
    · have hk : k < g (125 + q) := by omega
      have t := w_th hW hq (k := g (125 + q) - 1 - k) (by omega)
      have ih := r_holds_l hQ hW hM hq n (k + 1) (by omega) (by omega)
      rw [sm, hr_app] at ih
      simp (disch := omega) only [l_0, l_1, l_2, l_3, l_4, l_5, l_6, l_7, l_8, l_9, l_10, l_11, l_12, l_13, l_14, l_15, l_16, l_17, l_18, l_19, l_20, l_21, l_22, l_23, l_24, l_25, l_26, l_27, l_28, l_29, l_30, l_31, l_32, l_33, l_34, l_35, l_36, l_40, l_41, l_48, l_56, l_57, l_59, l_60, l_61, l_62, l_63, l_79, l_81, l_88, l_93, l_97, l_99, l_105, l_117, l_121, l_122, l_125, l_127, l_131, l_179, l_185, l_193, l_197, l_200, l_201, l_210, l_255, l_390, l_400, l_616, l_900, l_940, l_999, l_1000, l_1024, e_ltT, e_ltF, e_leT, e_leF, e_eqT, e_eqF, e_cl, e_in, e_gd, e_bd, e_ne, e_en, e_nlt, e_ltn, e_len, e_nle, e_nn, e_z0, e_z1, nI_add, pk_mul, e_sub, Nf_app, e_refl, e_reflN, reduceIte, ite_true_, ite_false_, hM, r_from hW hM hq hk, ih]
theorem r_holds (hQ : WQ g) (hW : WS N g) (hM : oA M 6 = Nf g) {q : Nat} (hq : q < 6) : pX11_holdsOf M (nI q) = some (nI (hs g q)) := by
  have hL := w_long hW hq
  have h := r_holds_l hQ hW hM hq fu 0 (by omega) (by rw [fu_eq]; omega)
  rw [sm, sm_rev (g (125 + q)) (fun k => g (5 + hr g q k))] at h
  unfold pX11_holdsOf
  rw [l_0, h, e_bd, hs]
theorem c_holds_l (hQ : WQ g) (hW : WS N g) (hR : QR V2 g) (hS : SR V g) {p : Nat} (hp : p < 6) : ∀ (n k : Nat), k ≤ g (125 + p) → g (125 + p) - k < n →
    pX6_allHolds_l5 V V2 (nI p) n (nI (sm (fun j => g (5 + hr g p j)) k)) (nI k) = some (nI (hs g p))
  | 0, _, _, h => by omega
  | n + 1, k, h1, h2 => by
    have hL := w_long hW hp
    rw [pX6_allHolds_l5]
    by_cases hz : k = g (125 + p)
    · simp (disch := omega) only [l_0, l_1, l_2, l_3, l_4, l_5, l_6, l_7, l_8, l_9, l_10, l_11, l_12, l_13, l_14, l_15, l_16, l_17, l_18, l_19, l_20, l_21, l_22, l_23, l_24, l_25, l_26, l_27, l_28, l_29, l_30, l_31, l_32, l_33, l_34, l_35, l_36, l_40, l_41, l_48, l_56, l_57, l_59, l_60, l_61, l_62, l_63, l_79, l_81, l_88, l_93, l_97, l_99, l_105, l_117, l_121, l_122, l_125, l_127, l_131, l_179, l_185, l_193, l_197, l_200, l_201, l_210, l_255, l_390, l_400, l_616, l_900, l_940, l_999, l_1000, l_1024, e_ltT, e_ltF, e_leT, e_leF, e_eqT, e_eqF, e_cl, e_in, e_gd, e_bd, e_ne, e_en, e_nlt, e_ltn, e_len, e_nle, e_nn, e_z0, e_z1, nI_add, pk_mul, e_sub, Nf_app, e_refl, e_reflN, reduceIte, ite_true_, ite_false_, s_1 hS]
      rw [hz, hs]
    · have hk : k < g (125 + p) := by omega
      have ih := c_holds_l hQ hW hR hS hp n (k + 1) (by omega) (by omega)
      rw [sm, hr_app] at ih
      simp (disch := omega) only [l_0, l_1, l_2, l_3, l_4, l_5, l_6, l_7, l_8, l_9, l_10, l_11, l_12, l_13, l_14, l_15, l_16, l_17, l_18, l_19, l_20, l_21, l_22, l_23, l_24, l_25, l_26, l_27, l_28, l_29, l_30, l_31, l_32, l_33, l_34, l_35, l_36, l_40, l_41, l_48, l_56, l_57, l_59, l_60, l_61, l_62, l_63, l_79, l_81, l_88, l_93, l_97, l_99, l_105, l_117, l_121, l_122, l_125, l_127, l_131, l_179, l_185, l_193, l_197, l_200, l_201, l_210, l_255, l_390, l_400, l_616, l_900, l_940, l_999, l_1000, l_1024, e_ltT, e_ltF, e_leT, e_leF, e_eqT, e_eqF, e_cl, e_in, e_gd, e_bd, e_ne, e_en, e_nlt, e_ltn, e_len, e_nle, e_nn, e_z0, e_z1, nI_add, pk_mul, e_sub, Nf_app, e_refl, e_reflN, reduceIte, ite_true_, ite_false_, s_1 hS, c_holdAt hQ hW hR hS hp hk, ih]
theorem c_holds (hQ : WQ g) (hW : WS N g) (hR : QR V2 g) (hS : SR V g) {p : Nat} (hp : p < 6) : pX6_allHolds V V2 (nI p) = some (nI (hs g p)) := by
  have hL := w_long hW hp
  have h := c_holds_l hQ hW hR hS hp fu 0 (by omega) (by rw [fu_eq]; omega)
  unfold pX6_allHolds
  rw [sm] at h
  rw [l_0, h, e_bd]
end
