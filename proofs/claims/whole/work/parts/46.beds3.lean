/-! the best beds -/
def wm (P : Nat → Bool) : Nat → (Nat → Nat) × Nat
  | 0 => (fun _ => 0, 0)
  | b + 1 => if P b = true then tp (wm P b) b else wm P b
theorem wm_ok (P : Nat → Bool) : ∀ b, (wm P b).2 ≤ b ∧ (∀ j, j < (wm P b).2 → (wm P b).1 j < b ∧ P ((wm P b).1 j) = true ∧ (wm P ((wm P b).1 j)).2 = j) ∧ (∀ c, c < b → P c = true → (wm P c).2 < (wm P b).2 ∧ (wm P b).1 (wm P c).2 = c)
  | 0 => ⟨Nat.le_refl _, fun j hj => by
      have hj : j < 0 := hj
      omega, fun c hc => by omega⟩
  | b + 1 => by
    obtain ⟨h1, h2, h3⟩ := wm_ok P b
    by_cases c : P b = true
    · have e : wm P (b + 1) = tp (wm P b) b := by rw [wm, if_pos c]
      rw [e]
      refine ⟨by show (wm P b).2 + 1 ≤ b + 1; omega, fun j hj => ?_, fun d hd hp => ?_⟩
      · have hj : j < (wm P b).2 + 1 := hj
        show va_up (wm P b).1 (wm P b).2 b j < b + 1 ∧ P (va_up (wm P b).1 (wm P b).2 b j) = true ∧ (wm P (va_up (wm P b).1 (wm P b).2 b j)).2 = j
        by_cases e2 : j = (wm P b).2
        · rw [uv_eq e2]; exact ⟨by omega, c, e2.symm⟩
        · rw [uv_ne e2]
          obtain ⟨a1, a2, a3⟩ := h2 j (by omega)
          exact ⟨by omega, a2, a3⟩
      · show (wm P d).2 < (wm P b).2 + 1 ∧ va_up (wm P b).1 (wm P b).2 b (wm P d).2 = d
        by_cases e2 : d = b
        · subst e2; exact ⟨by omega, uv_eq rfl⟩
        · obtain ⟨a1, a2⟩ := h3 d (by omega) hp
          exact ⟨by omega, by rw [uv_ne (by omega)]; exact a2⟩
    · have e : wm P (b + 1) = wm P b := by rw [wm, if_neg c]
      rw [e]
      refine ⟨by omega, fun j hj => ?_, fun d hd hp => ?_⟩
      · obtain ⟨a1, a2⟩ := h2 j hj
        exact ⟨by omega, a2⟩
      · by_cases e2 : d = b
        · subst e2; exact absurd hp c
        · exact h3 d (by omega) hp
theorem EC_EA {it lk : Nat → Nat} {n B y : Nat} {P : Nat → Bool} (hB : B ≤ 4) (hy : ∀ j, j < 4 → y.testBit j = (decide (j < B) && P j)) : EC it n (fun j => lk ((wm P B).1 j)) (wm P B).2 ↔ EA it n lk y := by
  obtain ⟨h1, h2, h3⟩ := wm_ok P B
  constructor
  · rintro ⟨a, ha⟩
    refine ⟨fun i => if a i < (wm P B).2 then (wm P B).1 (a i) else 99, fun j hj hyj => ?_⟩
    rw [hy j hj, Bool.and_eq_true, decide_eq_true_eq] at hyj
    obtain ⟨a1, a2⟩ := h3 j hyj.1 hyj.2
    have := ha (wm P j).2 a1
    simp only [a2] at this
    refine Nat.le_trans this (sm_pt (fun i hi => ?_))
    by_cases c : a i = (wm P j).2
    · rw [if_pos c]
      have e : (if a i < (wm P B).2 then (wm P B).1 (a i) else 99) = j := by rw [c, if_pos a1, a2]
      show _ ≤ if (if a i < (wm P B).2 then (wm P B).1 (a i) else 99) = j then it i else 0
      rw [if_pos e]; exact Nat.le_refl _
    · rw [if_neg c]; exact Nat.zero_le _
  · rintro ⟨a, ha⟩
    refine ⟨fun i => (wm P (a i)).2, fun j hj => ?_⟩
    obtain ⟨a1, a2, a3⟩ := h2 j hj
    have := ha ((wm P B).1 j) (by omega) (by rw [hy _ (by omega), decide_eq_true a1, a2]; rfl)
    refine Nat.le_trans this (sm_pt (fun i hi => ?_))
    by_cases c : a i = (wm P B).1 j
    · rw [if_pos c]
      have e : (wm P (a i)).2 = j := by rw [c]; exact a3
      show _ ≤ if (wm P (a i)).2 = j then it i else 0
      rw [if_pos e]; exact Nat.le_refl _
    · rw [if_neg c]; exact Nat.zero_le _
section
variable {N : Nat} {g : Nat → Nat} {M V V2 W : Ob}
def wP (g : Nat → Nat) (x : Nat) : Nat → Bool := fun b => x.testBit b && !sl g b
theorem wP_lk (hQ : WQ g) {x b : Nat} (hb : b < g 3) (h : wP g x b = true) : 1 ≤ lks g b ∧ lks g b ≤ 99 := by
  unfold wP sl at h
  rw [Bool.and_eq_true, Bool.not_eq_true', decide_eq_false_iff_not] at h
  have := w_need hQ hb
  unfold lks; omega
theorem c_can_l (hQ : WQ g) (hW : WS N g) (hN : N < 1000000) (hR : QR V2 g) (hS : SR V g) {x : Nat} (hx : x < 16) : ∀ (f b : Nat) {F : Nat → Int32} {W : Ob}, b ≤ g 3 → g 3 - b < f → (∀ j, j < (wm (wP g x) b).2 → F j = nI (lks g ((wm (wP g x) b).1 j))) →
    okS (pX3_canFill_l9 V2 V (nI x) f (nI (wm (wP g x) b).2) (nI (sm (fun j => lks g ((wm (wP g x) b).1 j)) (wm (wP g x) b).2)) (nI b) (sA W 5 F)) (fun r => r.1 = nI (wm (wP g x) (g 3)).2 ∧ r.2.1 = nI (sm (fun j => lks g ((wm (wP g x) (g 3)).1 j)) (wm (wP g x) (g 3)).2) ∧ ∃ F', r.2.2 = sA W 5 F' ∧ ∀ j, j < (wm (wP g x) (g 3)).2 → F' j = nI (lks g ((wm (wP g x) (g 3)).1 j)))
  | 0, _, _, _, _, h, _ => by omega
  | f + 1, b, F, W, h1, h2, hF => by
    have g3 := w_g3 hQ
    have hc := (wm_ok (wP g x) b).1
    rw [pX3_canFill_l9]
    by_cases c : b = g 3
    · simp (disch := omega) only [l_0, l_1, l_2, l_3, l_4, l_5, l_6, l_7, l_8, l_9, l_10, l_11, l_12, l_13, l_14, l_15, l_16, l_17, l_18, l_19, l_20, l_21, l_22, l_23, l_24, l_25, l_26, l_27, l_28, l_29, l_30, l_31, l_32, l_33, l_34, l_35, l_36, l_40, l_41, l_48, l_56, l_57, l_59, l_60, l_61, l_62, l_63, l_79, l_81, l_88, l_93, l_97, l_99, l_105, l_117, l_121, l_122, l_125, l_127, l_131, l_179, l_185, l_193, l_197, l_200, l_201, l_210, l_255, l_390, l_400, l_616, l_900, l_940, l_999, l_1000, l_1024, e_ltT, e_ltF, e_leT, e_leF, e_eqT, e_eqF, e_cl, e_in, e_gd, e_bd, e_ne, e_en, e_nlt, e_ltn, e_len, e_nle, e_nn, e_z0, e_z1, nI_add, pk_mul, e_sub, Nf_app, e_refl, e_reflN, reduceIte, ite_true_, ite_false_, q_11 hR]
      exact okS_some ⟨by rw [c], by rw [c], F, rfl, by rw [← c]; exact hF⟩
    · have hb : b < g 3 := by omega
      have hs := c_slept hQ hW hN hR hS hb
      have hn := w_need hQ hb
      have hsp := hW.2.2.2.2.2 b (by omega)
      cases cb : x.testBit b with
      | false =>
        have bf := e_bitF cb (by omega) (by omega)
        have e : wm (wP g x) (b + 1) = wm (wP g x) b := by rw [wm, if_neg (by unfold wP; rw [cb]; simp)]
        have ih := c_can_l hQ hW hN hR hS hx f (b + 1) (F := F) (W := W) (by omega) (by omega) (by rw [e]; exact hF)
        rw [e] at ih
        simp (disch := omega) only [l_0, l_1, l_2, l_3, l_4, l_5, l_6, l_7, l_8, l_9, l_10, l_11, l_12, l_13, l_14, l_15, l_16, l_17, l_18, l_19, l_20, l_21, l_22, l_23, l_24, l_25, l_26, l_27, l_28, l_29, l_30, l_31, l_32, l_33, l_34, l_35, l_36, l_40, l_41, l_48, l_56, l_57, l_59, l_60, l_61, l_62, l_63, l_79, l_81, l_88, l_93, l_97, l_99, l_105, l_117, l_121, l_122, l_125, l_127, l_131, l_179, l_185, l_193, l_197, l_200, l_201, l_210, l_255, l_390, l_400, l_616, l_900, l_940, l_999, l_1000, l_1024, e_ltT, e_ltF, e_leT, e_leF, e_eqT, e_eqF, e_cl, e_in, e_gd, e_bd, e_ne, e_en, e_nlt, e_ltn, e_len, e_nle, e_nn, e_z0, e_z1, nI_add, pk_mul, e_sub, Nf_app, e_refl, e_reflN, reduceIte, ite_true_, ite_false_, q_11 hR, bf]
        exact ih
      | true =>
        have bt := e_bitT cb (by omega) (by omega)
        cases cs : sl g b with
        | true =>
          rw [cs, b01_t] at hs
          have e : wm (wP g x) (b + 1) = wm (wP g x) b := by rw [wm, if_neg (by unfold wP; rw [cs]; simp)]
          have ih := c_can_l hQ hW hN hR hS hx f (b + 1) (F := F) (W := W) (by omega) (by omega) (by rw [e]; exact hF)
          rw [e] at ih
          simp (disch := omega) only [l_0, l_1, l_2, l_3, l_4, l_5, l_6, l_7, l_8, l_9, l_10, l_11, l_12, l_13, l_14, l_15, l_16, l_17, l_18, l_19, l_20, l_21, l_22, l_23, l_24, l_25, l_26, l_27, l_28, l_29, l_30, l_31, l_32, l_33, l_34, l_35, l_36, l_40, l_41, l_48, l_56, l_57, l_59, l_60, l_61, l_62, l_63, l_79, l_81, l_88, l_93, l_97, l_99, l_105, l_117, l_121, l_122, l_125, l_127, l_131, l_179, l_185, l_193, l_197, l_200, l_201, l_210, l_255, l_390, l_400, l_616, l_900, l_940, l_999, l_1000, l_1024, e_ltT, e_ltF, e_leT, e_leF, e_eqT, e_eqF, e_cl, e_in, e_gd, e_bd, e_ne, e_en, e_nlt, e_ltn, e_len, e_nle, e_nn, e_z0, e_z1, nI_add, pk_mul, e_sub, Nf_app, e_refl, e_reflN, reduceIte, ite_true_, ite_false_, q_11 hR, bt, hs]
          exact ih
        | false =>
          rw [cs, b01_f] at hs
          have hsl : ¬ g (117 + b) ≤ g (193 + b) := by unfold sl at cs; exact of_decide_eq_false cs
          have e : wm (wP g x) (b + 1) = tp (wm (wP g x) b) b := by rw [wm, if_pos (by unfold wP; rw [cb, cs]; rfl)]
          have eL : g (117 + b) - g (193 + b) = lks g b := rfl
          have ih := c_can_l hQ hW hN hR hS hx f (b + 1) (F := va_up F (wm (wP g x) b).2 (nI (lks g b))) (W := W) (by omega) (by omega) (by
            rw [e]
            intro j hj
            have hj : j < (wm (wP g x) b).2 + 1 := hj
            show va_up F (wm (wP g x) b).2 (nI (lks g b)) j = nI (lks g (va_up (wm (wP g x) b).1 (wm (wP g x) b).2 b j))
            by_cases e2 : j = (wm (wP g x) b).2
            · rw [uv_eq e2, uv_eq e2]
            · rw [uv_ne e2, uv_ne e2]; exact hF j (by omega))
          have e3 : sm (fun j => lks g ((wm (wP g x) (b + 1)).1 j)) (wm (wP g x) (b + 1)).2 = sm (fun j => lks g ((wm (wP g x) b).1 j)) (wm (wP g x) b).2 + lks g b := by
            rw [e]
            show sm (fun j => lks g (va_up (wm (wP g x) b).1 (wm (wP g x) b).2 b j)) ((wm (wP g x) b).2 + 1) = _
            rw [sm, sm_cong (h := fun j => lks g ((wm (wP g x) b).1 j)) (fun j hj => by rw [uv_ne (by omega)]), uv_eq rfl]
          have e4 : (wm (wP g x) (b + 1)).2 = (wm (wP g x) b).2 + 1 := by rw [e]; rfl
          rw [e3, e4] at ih
          simp (disch := omega) only [l_0, l_1, l_2, l_3, l_4, l_5, l_6, l_7, l_8, l_9, l_10, l_11, l_12, l_13, l_14, l_15, l_16, l_17, l_18, l_19, l_20, l_21, l_22, l_23, l_24, l_25, l_26, l_27, l_28, l_29, l_30, l_31, l_32, l_33, l_34, l_35, l_36, l_40, l_41, l_48, l_56, l_57, l_59, l_60, l_61, l_62, l_63, l_79, l_81, l_88, l_93, l_97, l_99, l_105, l_117, l_121, l_122, l_125, l_127, l_131, l_179, l_185, l_193, l_197, l_200, l_201, l_210, l_255, l_390, l_400, l_616, l_900, l_940, l_999, l_1000, l_1024, e_ltT, e_ltF, e_leT, e_leF, e_eqT, e_eqF, e_cl, e_in, e_gd, e_bd, e_ne, e_en, e_nlt, e_ltn, e_len, e_nle, e_nn, e_z0, e_z1, nI_add, pk_mul, e_sub, Nf_app, e_refl, e_reflN, reduceIte, ite_true_, ite_false_, oI_sI, oI_sL, oI_sW, oI_sA, oI_sJ, oI_sX, oL_sI, oL_sL, oL_sW, oL_sA, oL_sJ, oL_sX, oW_sI, oW_sL, oW_sW, oW_sA, oW_sJ, oW_sX, oA_sI, oA_sL, oA_sW, oA_sA, oA_sJ, oA_sX, oJ_sI, oJ_sL, oJ_sW, oJ_sA, oJ_sJ, oJ_sX, oX_sI, oX_sL, oX_sW, oX_sA, oX_sJ, oX_sX, Nat.reduceEqDiff, n10, n01, q_11 hR, bt, hs, q_13 hR, s_5 hS, eL, uv_eq, sA_sA]
          exact ih
theorem BC.set {s : (Nat → Nat) × Nat} (h : BC W s) {k : Nat} (hk : k = 0 ∨ k = 5) (F : Nat → Int32) : BC (sA W k F) s := by
  refine ⟨h.1, h.2.1, fun i hi => ?_, h.2.2.2⟩
  rw [oA_sA, if_neg (by omega)]; exact h.2.2.1 i hi
theorem it_n (hW : WS N g) : (bl g 8).2 ≤ 10 := by rw [bl_n]; exact hW.2.2.2.1
theorem c_can (hQ : WQ g) (hW : WS N g) (hN : N < 1000000) (hR : QR V2 g) (hS : SR V g) (hB : BC W (bl g 8)) {x y : Nat} (hx : x < 16) (hy : ∀ j, j < 4 → y.testBit j = (decide (j < g 3) && wP g x j)) :
    okS (pX3_canFill W V2 V (nI x)) (fun r => (∃ B : Bool, r.1 = nI (b01 B) ∧ (B = true ↔ EA (bl g 8).1 (bl g 8).2 (lks g) y)) ∧ BC r.2 (bl g 8)) := by
  have g3 := w_g3 hQ
  have hn := it_n hW
  have h9 := bl_9 hQ hW 8 (Nat.le_refl _)
  have hs9 : sm (bl g 8).1 (bl g 8).2 ≤ (bl g 8).2 * 9 := sm_le h9
  obtain ⟨hw1, hw2, _⟩ := wm_ok (wP g x) (g 3)
  have hm : ∀ j, j < (wm (wP g x) (g 3)).2 → 1 ≤ lks g ((wm (wP g x) (g 3)).1 j) ∧ lks g ((wm (wP g x) (g 3)).1 j) ≤ 99 := fun j hj => wP_lk hQ (hw2 j hj).1 (hw2 j hj).2.1
  have hs99 : sm (fun j => lks g ((wm (wP g x) (g 3)).1 j)) (wm (wP g x) (g 3)).2 ≤ (wm (wP g x) (g 3)).2 * 99 := sm_le (fun j hj => (hm j hj).2)
  have key := EC_EA (it := (bl g 8).1) (lk := lks g) (n := (bl g 8).2) (B := g 3) (y := y) (P := wP g x) g3 hy
  obtain ⟨r, x1, x2, x3, F', x4, x5⟩ := c_can_l hQ hW hN hR hS hx fu 0 (F := oA W 5) (W := W) (by omega) (by rw [fu_eq]; omega) (fun j hj => by
    have hj : j < 0 := hj
    omega)
  rw [sA_self] at x1
  have z1 : (wm (wP g x) 0).2 = 0 := rfl
  rw [z1, sm] at x1
  have hB1 := hB.set (k := 5) (by omega) F'
  unfold pX3_canFill
  by_cases c : sm (bl g 8).1 (bl g 8).2 < sm (fun j => lks g ((wm (wP g x) (g 3)).1 j)) (wm (wP g x) (g 3)).2
  · simp (disch := omega) only [l_0, l_1, l_2, l_3, l_4, l_5, l_6, l_7, l_8, l_9, l_10, l_11, l_12, l_13, l_14, l_15, l_16, l_17, l_18, l_19, l_20, l_21, l_22, l_23, l_24, l_25, l_26, l_27, l_28, l_29, l_30, l_31, l_32, l_33, l_34, l_35, l_36, l_40, l_41, l_48, l_56, l_57, l_59, l_60, l_61, l_62, l_63, l_79, l_81, l_88, l_93, l_97, l_99, l_105, l_117, l_121, l_122, l_125, l_127, l_131, l_179, l_185, l_193, l_197, l_200, l_201, l_210, l_255, l_390, l_400, l_616, l_900, l_940, l_999, l_1000, l_1024, e_ltT, e_ltF, e_leT, e_leF, e_eqT, e_eqF, e_cl, e_in, e_gd, e_bd, e_ne, e_en, e_nlt, e_ltn, e_len, e_nle, e_nn, e_z0, e_z1, nI_add, pk_mul, e_sub, Nf_app, e_refl, e_reflN, reduceIte, ite_true_, ite_false_, x1, x2, x3, x4, hB1.2.1]
    refine okS_some ⟨⟨false, rfl, ⟨fun h => (nomatch h), fun h => ?_⟩⟩, hB1⟩
    have := EC_sum (key.mpr h)
    omega
  · obtain ⟨L, hL4, hL⟩ := hB1.2.2.2
    obtain ⟨r2, y1, v, D, y2, y3, y4, y5⟩ := c_most (it := (bl g 8).1) (mi := fun j => lks g ((wm (wP g x) (g 3)).1 j)) (w := (wm (wP g x) (g 3)).2) hn (by omega) hm hB1.1 hL4 (fun i _ h => hL.2 i h) (fun i hi => ⟨hB1.2.2.1 i hi, h9 i hi⟩) (fun j hj => by rw [oA_self]; exact x5 j hj)
    have hB2 := hB1.set (k := 0) (by omega) D
    by_cases c2 : (wm (wP g x) (g 3)).2 ≤ v
    · simp (disch := omega) only [l_0, l_1, l_2, l_3, l_4, l_5, l_6, l_7, l_8, l_9, l_10, l_11, l_12, l_13, l_14, l_15, l_16, l_17, l_18, l_19, l_20, l_21, l_22, l_23, l_24, l_25, l_26, l_27, l_28, l_29, l_30, l_31, l_32, l_33, l_34, l_35, l_36, l_40, l_41, l_48, l_56, l_57, l_59, l_60, l_61, l_62, l_63, l_79, l_81, l_88, l_93, l_97, l_99, l_105, l_117, l_121, l_122, l_125, l_127, l_131, l_179, l_185, l_193, l_197, l_200, l_201, l_210, l_255, l_390, l_400, l_616, l_900, l_940, l_999, l_1000, l_1024, e_ltT, e_ltF, e_leT, e_leF, e_eqT, e_eqF, e_cl, e_in, e_gd, e_bd, e_ne, e_en, e_nlt, e_ltn, e_len, e_nle, e_nn, e_z0, e_z1, nI_add, pk_mul, e_sub, Nf_app, e_refl, e_reflN, reduceIte, ite_true_, ite_false_, x1, x2, x3, x4, hB1.2.1, y1, y2, y5]
      exact okS_some ⟨⟨true, rfl, ⟨fun _ => key.mp (y4.mp c2), fun _ => rfl⟩⟩, hB2⟩
    · simp (disch := omega) only [l_0, l_1, l_2, l_3, l_4, l_5, l_6, l_7, l_8, l_9, l_10, l_11, l_12, l_13, l_14, l_15, l_16, l_17, l_18, l_19, l_20, l_21, l_22, l_23, l_24, l_25, l_26, l_27, l_28, l_29, l_30, l_31, l_32, l_33, l_34, l_35, l_36, l_40, l_41, l_48, l_56, l_57, l_59, l_60, l_61, l_62, l_63, l_79, l_81, l_88, l_93, l_97, l_99, l_105, l_117, l_121, l_122, l_125, l_127, l_131, l_179, l_185, l_193, l_197, l_200, l_201, l_210, l_255, l_390, l_400, l_616, l_900, l_940, l_999, l_1000, l_1024, e_ltT, e_ltF, e_leT, e_leF, e_eqT, e_eqF, e_cl, e_in, e_gd, e_bd, e_ne, e_en, e_nlt, e_ltn, e_len, e_nle, e_nn, e_z0, e_z1, nI_add, pk_mul, e_sub, Nf_app, e_refl, e_reflN, reduceIte, ite_true_, ite_false_, x1, x2, x3, x4, hB1.2.1, y1, y2, y5]
      exact okS_some ⟨⟨false, rfl, ⟨fun h => (nomatch h), fun h => absurd (y4.mpr (key.mpr h)) c2⟩⟩, hB2⟩
def s0 (g : Nat → Nat) : Nat := bs (sl g) (g 3)
def GD (g : Nat → Nat) (w : Nat) : Prop := w < 2 ^ g 3 ∧ w &&& s0 g = s0 g ∧ EA (bl g 8).1 (bl g 8).2 (lks g) (w ^^^ s0 g)
def btr (w b : Nat) : Prop := pc w < pc b ∨ (pc w = pc b ∧ b ≤ w)
theorem best_one {b c : Nat} (hb : GD g b) (hc : GD g c) (h1 : ∀ w, GD g w → btr w b) (h2 : ∀ w, GD g w → btr w c) : b = c := by
  have a1 := h1 c hc
  have a2 := h2 b hb
  unfold btr at a1 a2
  omega
theorem s0_lt (hQ : WQ g) : s0 g < 2 ^ g 3 ∧ s0 g < 16 := by
  have h := bs_lt (sl g) (g 3)
  exact ⟨h, Nat.lt_of_lt_of_le h (Nat.pow_le_pow_right (by decide) (w_g3 hQ))⟩
theorem GD_s0 (hQ : WQ g) : GD g (s0 g) := ⟨(s0_lt hQ).1, Nat.and_self _, ⟨fun _ => 0, fun j _ h => by rw [Nat.xor_self, Nat.zero_testBit] at h; cases h⟩⟩
theorem f_or : ∀ m, m < 16 → ∀ s, s < 16 → m &&& s = 0 → (m ||| s) &&& s = s ∧ (m ||| s) ^^^ s = m ∧ m ||| s < 16 := by decide +kernel
theorem f_and : ∀ w, w < 16 → ∀ s, s < 16 → w &&& s = s → (w ^^^ s) &&& s = 0 ∧ s ≤ w ∧ (w ^^^ s) ||| s = w ∧ w ^^^ s < 16 := by decide +kernel
theorem f_last : ∀ m, m < 16 → ∀ s, s < 16 → 0 < m → m &&& s = 0 → (m ^^^ 2 ^ lastb m) &&& s = 0 := by decide +kernel
theorem c_beds_l (hQ : WQ g) (hW : WS N g) (hN : N < 1000000) (hR : QR V2 g) (hS : SR V g) : ∀ (f k x b : Nat) {W : Ob}, x + k = 2 ^ g 3 → k < f → BC W (bl g 8) → GD g b → (b = s0 g ∨ b < x) → (∀ w, GD g w → w < x → btr w b) →
    okS (pX3_bestBeds_l18 V2 V (nI (s0 g)) f (nI b) (nI x) W) (fun r => ∃ b', r.1 = nI b' ∧ GD g b' ∧ ∀ w, GD g w → btr w b')
  | 0, _, _, _, _, _, h, _, _, _, _ => by omega
  | f + 1, k, x, b, W, h1, h2, hB, hg, hbx, hbest => by
    have g3 := w_g3 hQ
    have p16 : 2 ^ g 3 ≤ 16 := Nat.pow_le_pow_right (n := 2) (by decide) g3
    obtain ⟨s1, s2⟩ := s0_lt hQ
    rw [pX3_bestBeds_l18]
    cases k with
    | zero =>
      simp (disch := omega) only [l_0, l_1, l_2, l_3, l_4, l_5, l_6, l_7, l_8, l_9, l_10, l_11, l_12, l_13, l_14, l_15, l_16, l_17, l_18, l_19, l_20, l_21, l_22, l_23, l_24, l_25, l_26, l_27, l_28, l_29, l_30, l_31, l_32, l_33, l_34, l_35, l_36, l_40, l_41, l_48, l_56, l_57, l_59, l_60, l_61, l_62, l_63, l_79, l_81, l_88, l_93, l_97, l_99, l_105, l_117, l_121, l_122, l_125, l_127, l_131, l_179, l_185, l_193, l_197, l_200, l_201, l_210, l_255, l_390, l_400, l_616, l_900, l_940, l_999, l_1000, l_1024, e_ltT, e_ltF, e_leT, e_leF, e_eqT, e_eqF, e_cl, e_in, e_gd, e_bd, e_ne, e_en, e_nlt, e_ltn, e_len, e_nle, e_nn, e_z0, e_z1, nI_add, pk_mul, e_sub, Nf_app, e_refl, e_reflN, reduceIte, ite_true_, ite_false_, q_11 hR, e_shl]
      exact okS_some ⟨b, rfl, hg, fun w hw => hbest w hw (by have := hw.1; omega)⟩
    | succ k =>
      have hb16 : b < 16 := by have := hg.1; omega
      have b1 := c_bits (n := x) (by omega)
      have b2 := c_bits (n := b) (by omega)
      have p1 := pc_le x
      have p2 := pc_le b
      have no : (GD g x → pc x ≤ pc b) → ∀ W', BC W' (bl g 8) → okS (pX3_bestBeds_l18 V2 V (nI (s0 g)) f (nI b) (nI (x + 1)) W') (fun r => ∃ b', r.1 = nI b' ∧ GD g b' ∧ ∀ w, GD g w → btr w b') := fun hno W' hB' =>
        c_beds_l hQ hW hN hR hS f k (x + 1) b (W := W') (by omega) (by omega) hB' hg (by omega) (fun w hw hwx => by
          by_cases e : w = x
          · subst e
            have q := hno hw
            have q2 := (f_and w (by omega) (s0 g) s2 hw.2.1).2.1
            unfold btr
            omega
          · exact hbest w hw (by omega))
      by_cases c1 : pc x ≤ pc b
      · simp (disch := omega) only [l_0, l_1, l_2, l_3, l_4, l_5, l_6, l_7, l_8, l_9, l_10, l_11, l_12, l_13, l_14, l_15, l_16, l_17, l_18, l_19, l_20, l_21, l_22, l_23, l_24, l_25, l_26, l_27, l_28, l_29, l_30, l_31, l_32, l_33, l_34, l_35, l_36, l_40, l_41, l_48, l_56, l_57, l_59, l_60, l_61, l_62, l_63, l_79, l_81, l_88, l_93, l_97, l_99, l_105, l_117, l_121, l_122, l_125, l_127, l_131, l_179, l_185, l_193, l_197, l_200, l_201, l_210, l_255, l_390, l_400, l_616, l_900, l_940, l_999, l_1000, l_1024, e_ltT, e_ltF, e_leT, e_leF, e_eqT, e_eqF, e_cl, e_in, e_gd, e_bd, e_ne, e_en, e_nlt, e_ltn, e_len, e_nle, e_nn, e_z0, e_z1, nI_add, pk_mul, e_sub, Nf_app, e_refl, e_reflN, reduceIte, ite_true_, ite_false_, q_11 hR, e_shl, b1, b2, pX3_bestBeds_j47]
        exact no (fun _ => c1) W hB
      · have ea : nI x &&& nI (s0 g) = nI (x &&& s0 g) := e_and _ _
        by_cases c2 : x &&& s0 g = s0 g
        · obtain ⟨f1, f2, f3, f4⟩ := f_and x (by omega) (s0 g) s2 c2
          obtain ⟨r, x1, ⟨B, x2, x3⟩, x4⟩ := c_can (W := W) hQ hW hN hR hS hB (x := x) (y := x ^^^ s0 g) (by omega) (fun j hj => by
            unfold wP s0
            rw [Nat.testBit_xor, bs_bit]
            have hsub : (bs (sl g) (g 3)).testBit j = true → x.testBit j = true := fun h => sub_tb (by rw [Nat.and_comm]; exact c2) j h
            rw [bs_bit] at hsub
            by_cases cj : j < g 3
            · rw [decide_eq_true cj] at hsub ⊢
              cases hsl : sl g j with
              | true => rw [hsl] at hsub; rw [hsub rfl]; rfl
              | false => simp
            · have : x.testBit j = false := Nat.testBit_lt_two_pow (Nat.lt_of_lt_of_le (show x < 2 ^ g 3 by omega) (Nat.pow_le_pow_right (by decide) (by omega)))
              rw [decide_eq_false cj, this]; rfl)
          cases B with
          | true =>
            have gx : GD g x := ⟨by omega, c2, x3.mp rfl⟩
            have ih := c_beds_l hQ hW hN hR hS f k (x + 1) x (W := r.2) (by omega) (by omega) x4 gx (by omega) (fun w hw hwx => by
              by_cases e : w = x
              · subst e; exact Or.inr ⟨rfl, Nat.le_refl _⟩
              · have := hbest w hw (by omega)
                unfold btr at this ⊢
                omega)
            rw [b01_t] at x2
            simp (disch := omega) only [l_0, l_1, l_2, l_3, l_4, l_5, l_6, l_7, l_8, l_9, l_10, l_11, l_12, l_13, l_14, l_15, l_16, l_17, l_18, l_19, l_20, l_21, l_22, l_23, l_24, l_25, l_26, l_27, l_28, l_29, l_30, l_31, l_32, l_33, l_34, l_35, l_36, l_40, l_41, l_48, l_56, l_57, l_59, l_60, l_61, l_62, l_63, l_79, l_81, l_88, l_93, l_97, l_99, l_105, l_117, l_121, l_122, l_125, l_127, l_131, l_179, l_185, l_193, l_197, l_200, l_201, l_210, l_255, l_390, l_400, l_616, l_900, l_940, l_999, l_1000, l_1024, e_ltT, e_ltF, e_leT, e_leF, e_eqT, e_eqF, e_cl, e_in, e_gd, e_bd, e_ne, e_en, e_nlt, e_ltn, e_len, e_nle, e_nn, e_z0, e_z1, nI_add, pk_mul, e_sub, Nf_app, e_refl, e_reflN, reduceIte, ite_true_, ite_false_, q_11 hR, e_shl, b1, b2, pX3_bestBeds_j47, ea, x1, x2]
            exact ih
          | false =>
            rw [b01_f] at x2
            simp (disch := omega) only [l_0, l_1, l_2, l_3, l_4, l_5, l_6, l_7, l_8, l_9, l_10, l_11, l_12, l_13, l_14, l_15, l_16, l_17, l_18, l_19, l_20, l_21, l_22, l_23, l_24, l_25, l_26, l_27, l_28, l_29, l_30, l_31, l_32, l_33, l_34, l_35, l_36, l_40, l_41, l_48, l_56, l_57, l_59, l_60, l_61, l_62, l_63, l_79, l_81, l_88, l_93, l_97, l_99, l_105, l_117, l_121, l_122, l_125, l_127, l_131, l_179, l_185, l_193, l_197, l_200, l_201, l_210, l_255, l_390, l_400, l_616, l_900, l_940, l_999, l_1000, l_1024, e_ltT, e_ltF, e_leT, e_leF, e_eqT, e_eqF, e_cl, e_in, e_gd, e_bd, e_ne, e_en, e_nlt, e_ltn, e_len, e_nle, e_nn, e_z0, e_z1, nI_add, pk_mul, e_sub, Nf_app, e_refl, e_reflN, reduceIte, ite_true_, ite_false_, q_11 hR, e_shl, b1, b2, pX3_bestBeds_j47, ea, x1, x2]
            exact no (fun h => absurd (x3.mpr h.2.2) (by decide)) r.2 x4
        · have hlt : x &&& s0 g ≤ x := Nat.and_le_left
          simp (disch := omega) only [l_0, l_1, l_2, l_3, l_4, l_5, l_6, l_7, l_8, l_9, l_10, l_11, l_12, l_13, l_14, l_15, l_16, l_17, l_18, l_19, l_20, l_21, l_22, l_23, l_24, l_25, l_26, l_27, l_28, l_29, l_30, l_31, l_32, l_33, l_34, l_35, l_36, l_40, l_41, l_48, l_56, l_57, l_59, l_60, l_61, l_62, l_63, l_79, l_81, l_88, l_93, l_97, l_99, l_105, l_117, l_121, l_122, l_125, l_127, l_131, l_179, l_185, l_193, l_197, l_200, l_201, l_210, l_255, l_390, l_400, l_616, l_900, l_940, l_999, l_1000, l_1024, e_ltT, e_ltF, e_leT, e_leF, e_eqT, e_eqF, e_cl, e_in, e_gd, e_bd, e_ne, e_en, e_nlt, e_ltn, e_len, e_nle, e_nn, e_z0, e_z1, nI_add, pk_mul, e_sub, Nf_app, e_refl, e_reflN, reduceIte, ite_true_, ite_false_, q_11 hR, e_shl, b1, b2, pX3_bestBeds_j47, ea]
          exact no (fun h => absurd h.2.1 c2) W hB
theorem c_beds (hQ : WQ g) (hW : WS N g) (hN : N < 1000000) (hR : QR V2 g) (hS : SR V g) : okS (pX3_bestBeds W V2 V) (fun r => ∃ b', r.1 = nI b' ∧ GD g b' ∧ ∀ w, GD g w → btr w b') := by
  have g3 := w_g3 hQ
  have p16 : 2 ^ g 3 ≤ 16 := Nat.pow_le_pow_right (n := 2) (by decide) g3
  obtain ⟨W1, w1, w2⟩ := c_bag (W := W) hQ hW hR hS
  have hsl : pX6_allSleeping V V2 = some (nI (s0 g)) := c_sleptOn hQ hW hN hR hS
  obtain ⟨r, x1, x2⟩ := c_beds_l hQ hW hN hR hS fu (2 ^ g 3) 0 (s0 g) (W := W1) (by omega) (by rw [fu_eq]; omega) w2 (GD_s0 hQ) (Or.inl rfl) (fun w _ h => by omega)
  unfold pX3_bestBeds
  simp (disch := omega) only [l_0, l_1, l_2, l_3, l_4, l_5, l_6, l_7, l_8, l_9, l_10, l_11, l_12, l_13, l_14, l_15, l_16, l_17, l_18, l_19, l_20, l_21, l_22, l_23, l_24, l_25, l_26, l_27, l_28, l_29, l_30, l_31, l_32, l_33, l_34, l_35, l_36, l_40, l_41, l_48, l_56, l_57, l_59, l_60, l_61, l_62, l_63, l_79, l_81, l_88, l_93, l_97, l_99, l_105, l_117, l_121, l_122, l_125, l_127, l_131, l_179, l_185, l_193, l_197, l_200, l_201, l_210, l_255, l_390, l_400, l_616, l_900, l_940, l_999, l_1000, l_1024, e_ltT, e_ltF, e_leT, e_leF, e_eqT, e_eqF, e_cl, e_in, e_gd, e_bd, e_ne, e_en, e_nlt, e_ltn, e_len, e_nle, e_nn, e_z0, e_z1, nI_add, pk_mul, e_sub, Nf_app, e_refl, e_reflN, reduceIte, ite_true_, ite_false_, w1, hsl, x1]
  exact okS_some x2
/-! the reference's -/
theorem ss_lt {it : Nat → Nat} {n : Nat} (hn : n ≤ 10) (h9 : ∀ i, i < n → it i ≤ 9) (t : Nat) : ss it n t < 1000 := by
  have := sm_le (f := fun i => if t.testBit i = true then it i else 0) (c := 9) (n := n) (fun i hi => by
    have := h9 i hi
    split <;> omega)
  unfold ss; omega
theorem r_row0 {it lk : Nat → Nat} {n : Nat} (hn : n ≤ 10) (l2 l3 : Int32) : ∀ (f k s : Nat) {Z : Nat → Int32}, s + k = 2 ^ n → k < f → (∀ t, t < s → yes (Z t) (PA it n lk 0 t)) → okS (pX11_beds_l20 (nI n) l2 l3 f (nI s) (sA M 26 Z)) (fun M' => ∃ Z', M' = sA M 26 Z' ∧ TT Z' it n lk 0)
  | 0, _, _, _, _, h, _ => by omega
  | f + 1, k, s, Z, h1, h2, hZ => by
    have p10 : 2 ^ n ≤ 1024 := Nat.pow_le_pow_right (n := 2) (by decide) hn
    rw [pX11_beds_l20]
    cases k with
    | zero =>
      simp (disch := omega) only [l_0, l_1, l_2, l_3, l_4, l_5, l_6, l_7, l_8, l_9, l_10, l_11, l_12, l_13, l_14, l_15, l_16, l_17, l_18, l_19, l_20, l_21, l_22, l_23, l_24, l_25, l_26, l_27, l_28, l_29, l_30, l_31, l_32, l_33, l_34, l_35, l_36, l_40, l_41, l_48, l_56, l_57, l_59, l_60, l_61, l_62, l_63, l_79, l_81, l_88, l_93, l_97, l_99, l_105, l_117, l_121, l_122, l_125, l_127, l_131, l_179, l_185, l_193, l_197, l_200, l_201, l_210, l_255, l_390, l_400, l_616, l_900, l_940, l_999, l_1000, l_1024, e_ltT, e_ltF, e_leT, e_leF, e_eqT, e_eqF, e_cl, e_in, e_gd, e_bd, e_ne, e_en, e_nlt, e_ltn, e_len, e_nle, e_nn, e_z0, e_z1, nI_add, pk_mul, e_sub, Nf_app, e_refl, e_reflN, reduceIte, ite_true_, ite_false_, e_shl]
      exact okS_some ⟨Z, rfl, fun t ht => by rw [Nat.mul_zero, Nat.zero_add]; exact hZ t (by omega)⟩
    | succ k =>
      have ih := fun (v : Int32) (hv : yes v (PA it n lk 0 s)) => r_row0 (it := it) (lk := lk) hn l2 l3 f k (s + 1) (Z := va_up Z s v) (by omega) (by omega) (fun t ht => by
        by_cases e : t = s
        · rw [e, uv_eq rfl]; exact hv
        · rw [uv_ne e]; exact hZ t (by omega))
      by_cases c : s = 0
      · have := ih (nI 1) (Or.inl ⟨rfl, (PA_0 (by omega)).mpr c⟩)
        simp (disch := omega) only [l_0, l_1, l_2, l_3, l_4, l_5, l_6, l_7, l_8, l_9, l_10, l_11, l_12, l_13, l_14, l_15, l_16, l_17, l_18, l_19, l_20, l_21, l_22, l_23, l_24, l_25, l_26, l_27, l_28, l_29, l_30, l_31, l_32, l_33, l_34, l_35, l_36, l_40, l_41, l_48, l_56, l_57, l_59, l_60, l_61, l_62, l_63, l_79, l_81, l_88, l_93, l_97, l_99, l_105, l_117, l_121, l_122, l_125, l_127, l_131, l_179, l_185, l_193, l_197, l_200, l_201, l_210, l_255, l_390, l_400, l_616, l_900, l_940, l_999, l_1000, l_1024, e_ltT, e_ltF, e_leT, e_leF, e_eqT, e_eqF, e_cl, e_in, e_gd, e_bd, e_ne, e_en, e_nlt, e_ltn, e_len, e_nle, e_nn, e_z0, e_z1, nI_add, pk_mul, e_sub, Nf_app, e_refl, e_reflN, reduceIte, ite_true_, ite_false_, oI_sI, oI_sL, oI_sW, oI_sA, oI_sJ, oI_sX, oL_sI, oL_sL, oL_sW, oL_sA, oL_sJ, oL_sX, oW_sI, oW_sL, oW_sW, oW_sA, oW_sJ, oW_sX, oA_sI, oA_sL, oA_sW, oA_sA, oA_sJ, oA_sX, oJ_sI, oJ_sL, oJ_sW, oJ_sA, oJ_sJ, oJ_sX, oX_sI, oX_sL, oX_sW, oX_sA, oX_sJ, oX_sX, Nat.reduceEqDiff, n10, n01, e_shl, sA_sA]
        exact this
      · have := ih (nI 0) (Or.inr ⟨rfl, fun h => c ((PA_0 (by omega)).mp h)⟩)
        simp (disch := omega) only [l_0, l_1, l_2, l_3, l_4, l_5, l_6, l_7, l_8, l_9, l_10, l_11, l_12, l_13, l_14, l_15, l_16, l_17, l_18, l_19, l_20, l_21, l_22, l_23, l_24, l_25, l_26, l_27, l_28, l_29, l_30, l_31, l_32, l_33, l_34, l_35, l_36, l_40, l_41, l_48, l_56, l_57, l_59, l_60, l_61, l_62, l_63, l_79, l_81, l_88, l_93, l_97, l_99, l_105, l_117, l_121, l_122, l_125, l_127, l_131, l_179, l_185, l_193, l_197, l_200, l_201, l_210, l_255, l_390, l_400, l_616, l_900, l_940, l_999, l_1000, l_1024, e_ltT, e_ltF, e_leT, e_leF, e_eqT, e_eqF, e_cl, e_in, e_gd, e_bd, e_ne, e_en, e_nlt, e_ltn, e_len, e_nle, e_nn, e_z0, e_z1, nI_add, pk_mul, e_sub, Nf_app, e_refl, e_reflN, reduceIte, ite_true_, ite_false_, oI_sI, oI_sL, oI_sW, oI_sA, oI_sJ, oI_sX, oL_sI, oL_sL, oL_sW, oL_sA, oL_sJ, oL_sX, oW_sI, oW_sL, oW_sW, oW_sA, oW_sJ, oW_sX, oA_sI, oA_sL, oA_sW, oA_sA, oA_sJ, oA_sX, oJ_sI, oJ_sL, oJ_sW, oJ_sA, oJ_sJ, oJ_sX, oX_sI, oX_sL, oX_sW, oX_sA, oX_sJ, oX_sX, Nat.reduceEqDiff, n10, n01, e_shl, sA_sA]
        exact this
theorem r_beds_l (hQ : WQ g) (hW : WS N g) {M : Ob} (hM : oA M 6 = Nf g) (h27 : ∀ t, t < 2 ^ (bl g 8).2 → oA M 27 t = nI (ss (bl g 8).1 (bl g 8).2 t)) : ∀ (f k m b : Nat) {Z : Nat → Int32}, m + k = 2 ^ g 3 → 1 ≤ m → k < f → (∀ c, c < m → c &&& s0 g = 0 → TT Z (bl g 8).1 (bl g 8).2 (lks g) c) → GD g b → (∀ w, GD g w → w ^^^ s0 g < m → btr w b) →
    okS (pX11_beds_l54 (nI (bl g 8).2) (nI (s0 g)) f (nI b) (nI m) (sA M 26 Z)) (fun r => (∃ b', r.1 = nI b' ∧ GD g b' ∧ ∀ w, GD g w → btr w b') ∧ ∃ Z', r.2 = sA M 26 Z')
  | 0, _, _, _, _, _, _, h, _, _, _ => by omega
  | f + 1, k, m, b, Z, h1, hm1, h2, hT, hg, hbest => by
    have g3 := w_g3 hQ
    have p16 : 2 ^ g 3 ≤ 16 := Nat.pow_le_pow_right (n := 2) (by decide) g3
    obtain ⟨s1, s2⟩ := s0_lt hQ
    have hn := it_n hW
    have hM6 : ∀ Z, oA (sA M 26 Z) 6 = Nf g := fun Z => by rw [oA_sA]; simp only [Nat.reduceEqDiff, reduceIte]; exact hM
    have hM27 : ∀ Z, oA (sA M 26 Z) 27 = oA M 27 := fun Z => by rw [oA_sA]; simp only [Nat.reduceEqDiff, reduceIte]
    rw [pX11_beds_l54]
    cases k with
    | zero =>
      simp (disch := omega) only [l_0, l_1, l_2, l_3, l_4, l_5, l_6, l_7, l_8, l_9, l_10, l_11, l_12, l_13, l_14, l_15, l_16, l_17, l_18, l_19, l_20, l_21, l_22, l_23, l_24, l_25, l_26, l_27, l_28, l_29, l_30, l_31, l_32, l_33, l_34, l_35, l_36, l_40, l_41, l_48, l_56, l_57, l_59, l_60, l_61, l_62, l_63, l_79, l_81, l_88, l_93, l_97, l_99, l_105, l_117, l_121, l_122, l_125, l_127, l_131, l_179, l_185, l_193, l_197, l_200, l_201, l_210, l_255, l_390, l_400, l_616, l_900, l_940, l_999, l_1000, l_1024, e_ltT, e_ltF, e_leT, e_leF, e_eqT, e_eqF, e_cl, e_in, e_gd, e_bd, e_ne, e_en, e_nlt, e_ltn, e_len, e_nle, e_nn, e_z0, e_z1, nI_add, pk_mul, e_sub, Nf_app, e_refl, e_reflN, reduceIte, ite_true_, ite_false_, hM6, e_shl]
      refine okS_some ⟨⟨b, rfl, hg, fun w hw => hbest w hw ?_⟩, Z, rfl⟩
      have := Nat.xor_lt_two_pow hw.1 s1
      omega
    | succ k =>
      have ea : nI m &&& nI (s0 g) = nI (m &&& s0 g) := e_and _ _
      by_cases c : m &&& s0 g = 0
      · obtain ⟨o1, o2, o3⟩ := f_or m (by omega) (s0 g) s2 c
        obtain ⟨a1, a2, a3, _⟩ := lastA m (by omega) (by omega)
        have hTl := hT _ a3 (f_last m (by omega) (s0 g) s2 (by omega) c)
        have orl : m ||| s0 g < 2 ^ g 3 := Nat.or_lt_two_pow (by omega) s1
        obtain ⟨r, x1, ⟨B, x2, x3⟩, Z', x4, x5, x6⟩ := r_fills (M := sA M 26 Z) (it := (bl g 8).1) (n := (bl g 8).2) (b := m) hQ (hM6 Z) hn (by omega) (by omega) (fun j hj => by
          have e : (m &&& s0 g).testBit j = false := by rw [c]; exact Nat.zero_testBit j
          rw [Nat.testBit_and, hj, Bool.true_and] at e
          unfold s0 at e
          rw [bs_bit] at e
          have hj3 : j < g 3 := by
            rcases Nat.lt_or_ge j (g 3) with h | h
            · exact h
            · have := xs_le hj
              have := Nat.pow_le_pow_right (n := 2) (by decide) h
              omega
          rw [decide_eq_true hj3, Bool.true_and] at e
          exact e) (ss_lt hn (bl_9 hQ hW 8 (Nat.le_refl _))) (by rw [hM27]; exact h27) (by rw [oA_self]; exact hTl)
        rw [sA_sA] at x4
        rw [oA_self] at x6
        have hT' : ∀ c, c < m + 1 → c &&& s0 g = 0 → TT Z' (bl g 8).1 (bl g 8).2 (lks g) c := fun d hd hds => by
          by_cases e : d = m
          · rw [e]; exact x5
          · intro t ht
            have p10 : 2 ^ (bl g 8).2 ≤ 1024 := Nat.pow_le_pow_right (n := 2) (by decide) hn
            rw [x6 _ (by omega)]
            exact hT d (by omega) hds t ht
        have b1 := r_bits (n := m ||| s0 g) (by omega)
        have b2 := r_bits (n := b) (by have := hg.1; omega)
        have p1 := pc_le (m ||| s0 g)
        have p2 := pc_le b
        have hb16 : b < 16 := by have := hg.1; omega
        have rec_ := fun (b' : Nat) (hg' : GD g b') (hb' : ∀ w, GD g w → w ^^^ s0 g < m + 1 → btr w b') => r_beds_l hQ hW hM h27 f k (m + 1) b' (Z := Z') (by omega) (by omega) (by omega) hT' hg' hb'
        have ex : ∀ w, GD g w → w ^^^ s0 g = m → w = m ||| s0 g := fun w hw e => by
          have := (f_and w (by have := hw.1; omega) (s0 g) s2 hw.2.1).2.2.1
          rw [e] at this; exact this.symm
        have no : (EA (bl g 8).1 (bl g 8).2 (lks g) m → btr (m ||| s0 g) b) → ∀ w, GD g w → w ^^^ s0 g < m + 1 → btr w b := fun hno w hw hlt => by
          by_cases e : w ^^^ s0 g = m
          · have e2 := ex w hw e
            rw [e2]
            exact hno (by rw [← e]; exact hw.2.2)
          · exact hbest w hw (by omega)
        cases B with
        | false =>
          rw [b01_f] at x2
          simp (disch := omega) only [l_0, l_1, l_2, l_3, l_4, l_5, l_6, l_7, l_8, l_9, l_10, l_11, l_12, l_13, l_14, l_15, l_16, l_17, l_18, l_19, l_20, l_21, l_22, l_23, l_24, l_25, l_26, l_27, l_28, l_29, l_30, l_31, l_32, l_33, l_34, l_35, l_36, l_40, l_41, l_48, l_56, l_57, l_59, l_60, l_61, l_62, l_63, l_79, l_81, l_88, l_93, l_97, l_99, l_105, l_117, l_121, l_122, l_125, l_127, l_131, l_179, l_185, l_193, l_197, l_200, l_201, l_210, l_255, l_390, l_400, l_616, l_900, l_940, l_999, l_1000, l_1024, e_ltT, e_ltF, e_leT, e_leF, e_eqT, e_eqF, e_cl, e_in, e_gd, e_bd, e_ne, e_en, e_nlt, e_ltn, e_len, e_nle, e_nn, e_z0, e_z1, nI_add, pk_mul, e_sub, Nf_app, e_refl, e_reflN, reduceIte, ite_true_, ite_false_, hM6, e_shl, ea, x1, x2, x4]
          exact rec_ b hg (no (fun h => absurd (x3.mpr h) (by decide)))
        | true =>
          rw [b01_t] at x2
          have gx : GD g (m ||| s0 g) := ⟨orl, o1, by rw [o2]; exact x3.mp rfl⟩
          have take : (pc b < pc (m ||| s0 g) ∨ pc b = pc (m ||| s0 g) ∧ m ||| s0 g < b) → ∀ w, GD g w → w ^^^ s0 g < m + 1 → btr w (m ||| s0 g) := fun ht w hw hlt => by
            by_cases e : w ^^^ s0 g = m
            · rw [ex w hw e]; exact Or.inr ⟨rfl, Nat.le_refl _⟩
            · have := hbest w hw (by omega)
              unfold btr at this ⊢
              omega
          by_cases d1 : pc b < pc (m ||| s0 g)
          · simp (disch := omega) only [l_0, l_1, l_2, l_3, l_4, l_5, l_6, l_7, l_8, l_9, l_10, l_11, l_12, l_13, l_14, l_15, l_16, l_17, l_18, l_19, l_20, l_21, l_22, l_23, l_24, l_25, l_26, l_27, l_28, l_29, l_30, l_31, l_32, l_33, l_34, l_35, l_36, l_40, l_41, l_48, l_56, l_57, l_59, l_60, l_61, l_62, l_63, l_79, l_81, l_88, l_93, l_97, l_99, l_105, l_117, l_121, l_122, l_125, l_127, l_131, l_179, l_185, l_193, l_197, l_200, l_201, l_210, l_255, l_390, l_400, l_616, l_900, l_940, l_999, l_1000, l_1024, e_ltT, e_ltF, e_leT, e_leF, e_eqT, e_eqF, e_cl, e_in, e_gd, e_bd, e_ne, e_en, e_nlt, e_ltn, e_len, e_nle, e_nn, e_z0, e_z1, nI_add, pk_mul, e_sub, Nf_app, e_refl, e_reflN, reduceIte, ite_true_, ite_false_, hM6, e_shl, ea, x1, x2, x4, e_or, b1, b2]
            exact rec_ _ gx (take (Or.inl d1))
          · by_cases d2 : pc (m ||| s0 g) = pc b
            · by_cases d3 : m ||| s0 g < b
              · simp (disch := omega) only [l_0, l_1, l_2, l_3, l_4, l_5, l_6, l_7, l_8, l_9, l_10, l_11, l_12, l_13, l_14, l_15, l_16, l_17, l_18, l_19, l_20, l_21, l_22, l_23, l_24, l_25, l_26, l_27, l_28, l_29, l_30, l_31, l_32, l_33, l_34, l_35, l_36, l_40, l_41, l_48, l_56, l_57, l_59, l_60, l_61, l_62, l_63, l_79, l_81, l_88, l_93, l_97, l_99, l_105, l_117, l_121, l_122, l_125, l_127, l_131, l_179, l_185, l_193, l_197, l_200, l_201, l_210, l_255, l_390, l_400, l_616, l_900, l_940, l_999, l_1000, l_1024, e_ltT, e_ltF, e_leT, e_leF, e_eqT, e_eqF, e_cl, e_in, e_gd, e_bd, e_ne, e_en, e_nlt, e_ltn, e_len, e_nle, e_nn, e_z0, e_z1, nI_add, pk_mul, e_sub, Nf_app, e_refl, e_reflN, reduceIte, ite_true_, ite_false_, hM6, e_shl, ea, x1, x2, x4, e_or, b1, b2]
                exact rec_ _ gx (take (Or.inr ⟨d2.symm, d3⟩))
              · simp (disch := omega) only [l_0, l_1, l_2, l_3, l_4, l_5, l_6, l_7, l_8, l_9, l_10, l_11, l_12, l_13, l_14, l_15, l_16, l_17, l_18, l_19, l_20, l_21, l_22, l_23, l_24, l_25, l_26, l_27, l_28, l_29, l_30, l_31, l_32, l_33, l_34, l_35, l_36, l_40, l_41, l_48, l_56, l_57, l_59, l_60, l_61, l_62, l_63, l_79, l_81, l_88, l_93, l_97, l_99, l_105, l_117, l_121, l_122, l_125, l_127, l_131, l_179, l_185, l_193, l_197, l_200, l_201, l_210, l_255, l_390, l_400, l_616, l_900, l_940, l_999, l_1000, l_1024, e_ltT, e_ltF, e_leT, e_leF, e_eqT, e_eqF, e_cl, e_in, e_gd, e_bd, e_ne, e_en, e_nlt, e_ltn, e_len, e_nle, e_nn, e_z0, e_z1, nI_add, pk_mul, e_sub, Nf_app, e_refl, e_reflN, reduceIte, ite_true_, ite_false_, hM6, e_shl, ea, x1, x2, x4, e_or, b1, b2]
                exact rec_ b hg (no (fun _ => Or.inr ⟨d2, by omega⟩))
            · simp (disch := omega) only [l_0, l_1, l_2, l_3, l_4, l_5, l_6, l_7, l_8, l_9, l_10, l_11, l_12, l_13, l_14, l_15, l_16, l_17, l_18, l_19, l_20, l_21, l_22, l_23, l_24, l_25, l_26, l_27, l_28, l_29, l_30, l_31, l_32, l_33, l_34, l_35, l_36, l_40, l_41, l_48, l_56, l_57, l_59, l_60, l_61, l_62, l_63, l_79, l_81, l_88, l_93, l_97, l_99, l_105, l_117, l_121, l_122, l_125, l_127, l_131, l_179, l_185, l_193, l_197, l_200, l_201, l_210, l_255, l_390, l_400, l_616, l_900, l_940, l_999, l_1000, l_1024, e_ltT, e_ltF, e_leT, e_leF, e_eqT, e_eqF, e_cl, e_in, e_gd, e_bd, e_ne, e_en, e_nlt, e_ltn, e_len, e_nle, e_nn, e_z0, e_z1, nI_add, pk_mul, e_sub, Nf_app, e_refl, e_reflN, reduceIte, ite_true_, ite_false_, hM6, e_shl, ea, x1, x2, x4, e_or, b1, b2]
              exact rec_ b hg (no (fun _ => Or.inl (by omega)))
      · have hle : m &&& s0 g ≤ m := Nat.and_le_left
        simp (disch := omega) only [l_0, l_1, l_2, l_3, l_4, l_5, l_6, l_7, l_8, l_9, l_10, l_11, l_12, l_13, l_14, l_15, l_16, l_17, l_18, l_19, l_20, l_21, l_22, l_23, l_24, l_25, l_26, l_27, l_28, l_29, l_30, l_31, l_32, l_33, l_34, l_35, l_36, l_40, l_41, l_48, l_56, l_57, l_59, l_60, l_61, l_62, l_63, l_79, l_81, l_88, l_93, l_97, l_99, l_105, l_117, l_121, l_122, l_125, l_127, l_131, l_179, l_185, l_193, l_197, l_200, l_201, l_210, l_255, l_390, l_400, l_616, l_900, l_940, l_999, l_1000, l_1024, e_ltT, e_ltF, e_leT, e_leF, e_eqT, e_eqF, e_cl, e_in, e_gd, e_bd, e_ne, e_en, e_nlt, e_ltn, e_len, e_nle, e_nn, e_z0, e_z1, nI_add, pk_mul, e_sub, Nf_app, e_refl, e_reflN, reduceIte, ite_true_, ite_false_, hM6, e_shl, ea]
        refine r_beds_l hQ hW hM h27 f k (m + 1) b (Z := Z) (by omega) (by omega) (by omega) (fun d hd hds => ?_) hg (fun w hw hlt => ?_)
        · by_cases e : d = m
          · rw [e] at hds; exact absurd hds c
          · exact hT d (by omega) hds
        · by_cases e : w ^^^ s0 g = m
          · have := (f_and w (by have := hw.1; omega) (s0 g) s2 hw.2.1).1
            rw [e] at this; exact absurd this c
          · exact hbest w hw (by omega)
theorem r_beds (hQ : WQ g) (hW : WS N g) (hN : N < 1000000) (hM : oA M 6 = Nf g) : okS ((pX11_laysBag M).bind fun r1 => (pX11_sleptOn r1.2).bind fun r3 => (pX11_beds_l20 r1.1 r3 r3 fu (nI 0) r1.2).bind fun r9 => pX11_beds_l54 r1.1 r3 fu r3 (nI 1) r9) (fun r => (∃ b', r.1 = nI b' ∧ GD g b' ∧ ∀ w, GD g w → btr w b') ∧ ∃ X Y Z, r.2 = sA (sA (sA M 28 X) 27 Y) 26 Z) := by
  have g3 := w_g3 hQ
  have p16 : 2 ^ g 3 ≤ 16 := Nat.pow_le_pow_right (n := 2) (by decide) g3
  have hn := it_n hW
  have p10 : 2 ^ (bl g 8).2 ≤ 1024 := Nat.pow_le_pow_right (n := 2) (by decide) hn
  obtain ⟨r, x1, x2, X, x3, x4⟩ := r_bag_l2 (M := M) hW hM fu 0 (X := oA M 28) (by omega) (by rw [fu_eq]; omega) (fun i hi => by
    have hi : i < 0 := hi
    omega)
  rw [sA_self] at x1
  have z1 : (bl g 0).2 = 0 := rfl
  rw [z1] at x1
  obtain ⟨M1, y1, Y, y2, y3⟩ := r_ss (M := sA M 28 X) (it := (bl g 8).1) (n := (bl g 8).2) hn (by rw [oA_self]; exact x4) fu (2 ^ (bl g 8).2) 0 (Y := oA (sA M 28 X) 27) (by omega) (by rw [fu_eq]; omega) (fun t ht => by omega)
  rw [sA_self] at y1
  have hM6 : oA (sA (sA M 28 X) 27 Y) 6 = Nf g := by
    rw [oA_sA, oA_sA]; simp only [Nat.reduceEqDiff, reduceIte]; exact hM
  have hsl : pX11_sleptOn (sA (sA M 28 X) 27 Y) = some (nI (s0 g)) := r_sleptOn hQ hW hN hM6
  obtain ⟨M2, w1, Z, w2, w3⟩ := r_row0 (M := sA (sA M 28 X) 27 Y) (it := (bl g 8).1) (lk := lks g) (n := (bl g 8).2) hn (nI (s0 g)) (nI (s0 g)) fu (2 ^ (bl g 8).2) 0 (Z := oA (sA (sA M 28 X) 27 Y) 26) (by omega) (by rw [fu_eq]; omega) (fun t ht => by omega)
  rw [sA_self] at w1
  obtain ⟨r5, v1, v2, Z', v3⟩ := r_beds_l (M := sA (sA M 28 X) 27 Y) hQ hW hM6 (by rw [oA_self]; exact y3) fu (2 ^ g 3 - 1) 1 (s0 g) (Z := Z) (by have := Nat.two_pow_pos (g 3); omega) (by omega) (by rw [fu_eq]; omega) (fun c hc _ => by
    have : c = 0 := by omega
    rw [this]; exact w3) (GD_s0 hQ) (fun w hw hlt => by
    have hw1 := hw.1
    obtain ⟨s1, s2⟩ := s0_lt hQ
    have := (f_and w (by omega) (s0 g) s2 hw.2.1).2.2.1
    have e : w ^^^ s0 g = 0 := by omega
    rw [e, Nat.zero_or] at this
    rw [← this]; exact Or.inr ⟨rfl, Nat.le_refl _⟩)
  unfold pX11_laysBag
  simp only [l_0, x1, e_bd, x2, x3, y1, y2, hsl, w1, w2, v1]
  exact okS_some ⟨v2, X, Y, Z', v3⟩
end
