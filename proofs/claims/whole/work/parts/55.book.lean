/-! the reading of a book -/
def BF (M M' : Ob) : Prop := (∀ k, k ≠ 4 → k ≠ 11 → k ≠ 12 → k ≠ 13 → k ≠ 14 → k ≠ 15 → k ≠ 16 → k ≠ 18 → k ≠ 36 → oI M' k = oI M k) ∧ (∀ k, k ≠ 8 → oA M' k = oA M k) ∧ (∀ k, oJ M' k = oJ M k)
theorem BF.trans {M M1 M2 : Ob} (a : BF M M1) (b : BF M1 M2) : BF M M2 := ⟨fun k h1 h2 h3 h4 h5 h6 h7 h8 h9 => (b.1 k h1 h2 h3 h4 h5 h6 h7 h8 h9).trans (a.1 k h1 h2 h3 h4 h5 h6 h7 h8 h9), fun k hk => (b.2.1 k hk).trans (a.2.1 k hk), fun k => (b.2.2 k).trans (a.2.2 k)⟩
theorem GF.bf {M M' : Ob} (a : GF M M') : BF M M' := ⟨fun k h1 h2 h3 h4 h5 h6 h7 h8 _ => a.1 k h1 h2 h3 h4 h5 h6 h7 h8, fun k _ => a.2.1 k, a.2.2⟩
theorem BF.refl (M : Ob) : BF M M := (GF.refl M).bf
theorem BF.a8 {M M' : Ob} (a : BF M M') (f : Nat → Int32) : BF M (sA M' 8 f) := ⟨a.1, fun k hk => by rw [oA_sA, if_neg hk]; exact a.2.1 k hk, a.2.2⟩
/-- a line, in the class (act, whom, with what) and in the reference's row -/
def BLn (g : Nat → Nat) (a : Option Nat) (p q r0 r1 r2 : Int32) : Prop :=
  (a = some 6 ∧ ∃ x n, x < g 1 ∧ 1 ≤ n ∧ n ≤ 20 ∧ p = nI x ∧ q = nI n ∧ r0 = nI 0 ∧ r1 = nI x ∧ r2 = nI n) ∨
  (a = some 7 ∧ ∃ x, x < g 1 ∧ p = nI x ∧ r0 = nI 1 ∧ r1 = nI x) ∨
  (a = some 8 ∧ ∃ x t, x < g 1 ∧ t < g 0 ∧ p = nI x ∧ q = nI t ∧ r0 = nI 2 ∧ r1 = nI x ∧ r2 = nI t) ∨
  (a = some 9 ∧ ∃ x t, x < g 3 ∧ t < g 0 ∧ p = nI x ∧ q = nI t ∧ r0 = nI 3 ∧ r1 = nI x ∧ r2 = nI t) ∨
  (a = some 10 ∧ ∃ n, 1 ≤ n ∧ n ≤ 60 ∧ q = nI n ∧ r0 = nI 4 ∧ r1 = nI n)
def BL (B M : Ob) (g : Nat → Nat) (m : Nat) : Prop := m ≤ 40 ∧ oI B 3 = nI m ∧ ∀ i, i < m → BLn g (oX B 0 i) (oA B 1 i) (oA B 2 i) (oA M 8 (3 * i)) (oA M 8 (3 * i + 1)) (oA M 8 (3 * i + 2))
section
variable {tb : Nat → Nat} {V M V2 B : Ob} {z lim : Nat} {g nn : Nat → Nat}
theorem NR.gf {M' : Ob} (H : NR V2 M g nn) (e : ∀ k, oJ M' k = oJ M k) : NR V2 M' g nn := by
  obtain ⟨a, b, c⟩ := H
  exact ⟨fun i hi => ⟨(a i hi).1, by rw [e]; exact (a i hi).2.1, (a i hi).2.2⟩, fun i hi => ⟨(b i hi).1, by rw [e]; exact (b i hi).2.1, (b i hi).2.2⟩, fun i hi => ⟨(c i hi).1, by rw [e]; exact (c i hi).2.1, (c i hi).2.2⟩⟩
theorem c_addLine {m : Nat} (h3 : oI B 3 = nI m) (hm : m < 40) {a : Option Nat} (ha : wOk a = true) {p q : Int32} (hq : q ≠ -nI 1) : pX0_addLine B a p q = some (nI 1, sI (sA (sA (sX B 0 (va_up (oX B 0) m a)) 1 (va_up (oA B 1) m p)) 2 (va_up (oA B 2) m q)) 3 (nI (m + 1))) := by
  have e : (q = -nI 1) = False := eq_false hq
  unfold pX0_addLine
  simp (disch := omega) only [l_1, l_40, e, reduceIte, h3, e_ltT, ha, e_gd, e_cl, e_in, oI_sX, oI_sA, oI_sI, oA_sX, oA_sA, oX_sA, oX_sX, Nat.reduceEqDiff, n10, n01, nI_add]
theorem c_addLineN {a : Option Nat} {p : Int32} : pX0_addLine B a p (-nI 1) = some (nI 0, B) := by
  unfold pX0_addLine
  simp (disch := omega) only [l_0, l_1, l_2, l_3, l_4, l_5, l_6, l_7, l_8, l_9, l_10, l_11, l_12, l_13, l_14, l_15, l_16, l_17, l_18, l_19, l_20, l_21, l_22, l_23, l_24, l_25, l_26, l_27, l_28, l_29, l_30, l_31, l_32, l_33, l_34, l_35, l_36, l_40, l_41, l_48, l_56, l_57, l_59, l_60, l_61, l_62, l_63, l_79, l_81, l_88, l_93, l_97, l_99, l_105, l_117, l_121, l_122, l_125, l_127, l_131, l_179, l_185, l_193, l_197, l_200, l_201, l_210, l_255, l_390, l_400, l_616, l_900, l_940, l_999, l_1000, l_1024, e_ltT, e_ltF, e_leT, e_leF, e_eqT, e_eqF, e_cl, e_in, e_gd, e_bd, e_ne, e_en, e_nlt, e_ltn, e_len, e_nle, e_nn, e_z0, e_z1, nI_add, pk_mul, e_sub, Nf_app, e_refl, e_reflN, reduceIte, ite_true_, ite_false_, hr_app]
def addB (B : Ob) (m : Nat) (a : Option Nat) (p q : Int32) : Ob := sI (sA (sA (sX B 0 (va_up (oX B 0) m a)) 1 (va_up (oA B 1) m p)) 2 (va_up (oA B 2) m q)) 3 (nI (m + 1))
theorem bl_ext {m : Nat} (H : BL B M g m) (hm : m < 40) {M' : Ob} (e : ∀ i, i < 3 * m → oA M' 8 i = oA M 8 i) {a : Option Nat} {p q : Int32} (hl : BLn g a p q (oA M' 8 (3 * m)) (oA M' 8 (3 * m + 1)) (oA M' 8 (3 * m + 2))) : BL (addB B m a p q) M' g (m + 1) := by
  obtain ⟨h1, h2, h3⟩ := H
  refine ⟨by omega, by unfold addB; simp (disch := omega) only [l_0, l_1, l_2, l_3, l_4, l_5, l_6, l_7, l_8, l_9, l_10, l_11, l_12, l_13, l_14, l_15, l_16, l_17, l_18, l_19, l_20, l_21, l_22, l_23, l_24, l_25, l_26, l_27, l_28, l_29, l_30, l_31, l_32, l_33, l_34, l_35, l_36, l_40, l_41, l_48, l_56, l_57, l_59, l_60, l_61, l_62, l_63, l_79, l_81, l_88, l_93, l_97, l_99, l_105, l_117, l_121, l_122, l_125, l_127, l_131, l_179, l_185, l_193, l_197, l_200, l_201, l_210, l_255, l_390, l_400, l_616, l_900, l_940, l_999, l_1000, l_1024, e_ltT, e_ltF, e_leT, e_leF, e_eqT, e_eqF, e_cl, e_in, e_gd, e_bd, e_ne, e_en, e_nlt, e_ltn, e_len, e_nle, e_nn, e_z0, e_z1, nI_add, pk_mul, e_sub, Nf_app, e_refl, e_reflN, reduceIte, ite_true_, ite_false_, oI_sI, oI_sL, oI_sW, oI_sA, oI_sJ, oI_sX, oL_sI, oL_sL, oL_sW, oL_sA, oL_sJ, oL_sX, oW_sI, oW_sL, oW_sW, oW_sA, oW_sJ, oW_sX, oA_sI, oA_sL, oA_sW, oA_sA, oA_sJ, oA_sX, oJ_sI, oJ_sL, oJ_sW, oJ_sA, oJ_sJ, oJ_sX, oX_sI, oX_sL, oX_sW, oX_sA, oX_sJ, oX_sX, Nat.reduceEqDiff, n10, n01, h2], fun i hi => ?_⟩
  have eX : oX (addB B m a p q) 0 = va_up (oX B 0) m a := by unfold addB; simp only [oX_sI, oX_sA, oX_sX, reduceIte]
  have e1 : oA (addB B m a p q) 1 = va_up (oA B 1) m p := by unfold addB; simp only [oA_sI, oA_sA, oA_sX, Nat.reduceEqDiff, n10, n01, reduceIte]
  have e2 : oA (addB B m a p q) 2 = va_up (oA B 2) m q := by unfold addB; simp only [oA_sI, oA_sA, oA_sX, Nat.reduceEqDiff, n10, n01, reduceIte]
  rw [eX, e1, e2]
  by_cases c : i = m
  · rw [uv_eq c, uv_eq c, uv_eq c, c]; exact hl
  · rw [uv_ne c, uv_ne c, uv_ne c, e _ (by omega), e _ (by omega), e _ (by omega)]; exact h3 i (by omega)
theorem w_ne {V : Ob} {i j : Nat} (h : oW V 8 = some i) (hij : i ≠ j) : ¬ oW V 8 = some j := fun e => hij (Option.some.inj (h.symm.trans e))
theorem nm1 {a : Nat} (h : a < 2147483648) : nI a ≠ -nI 1 := fun e => by rw [e_ne h] at e; exact e
theorem p_bperson (hP : PS V M tb z lim) (hR : ∀ k, k < 22 → oJ M 10 k = lN (wcN k)) (hQ : WQ g) (hq : QR V2 g) (h6 : oA M 6 = Nf g) (hN : NR V2 M g nn) {m x : Nat} (hB : BL B M g m) (h36 : oI M 36 = nI m) (hx : x < g 1) (ac : AC V M z) (c9 : ¬ oW V 8 = some 9) (c10 : ¬ oW V 8 = some 10) :
    ∃ r B' V' M', pX0_readLine_j46 B V V2 (nI x) = some (nI r, B', V') ∧ pX11_bookLine_j48 (sI M 18 (nI x)) (nI (3 * m)) (nI 0) (nI 0) = some (nI r, M') ∧ ((r = 1 ∧ m < 40 ∧ PS V' M' tb z lim ∧ BF M M' ∧ oI M' 36 = nI m ∧ BL B' M' g (m + 1)) ∨ (r = 0 ∧ BAD V' M' tb ∧ BF M M')) := by
  obtain ⟨b1, b2, b3⟩ := id hB
  have g0 := w_g0 hQ
  have g1 := w_g1 hQ
  have ok := tk_ok hP
  have e18 : oI (sI M 18 (nI x)) 18 = nI x := by rw [oI_sI, if_pos rfl]
  have bf18 : BF M (sI M 18 (nI x)) := ((GF.refl M).i 18 _ (by omega)).bf
  by_cases c40 : m = 40
  · obtain ⟨V', M', y1, y2, y3, y4⟩ := p_bad (hP.set 18 (nI x) (by omega)) (k := 4) (by omega)
    refine ⟨0, B, V', M', ?_, ?_, Or.inr ⟨rfl, y3, bf18.trans y4.bf⟩⟩
    · unfold pX0_readLine_j46
      simp (disch := omega) only [l_0, l_1, l_2, l_3, l_4, l_5, l_6, l_7, l_8, l_9, l_10, l_11, l_12, l_13, l_14, l_15, l_16, l_17, l_18, l_19, l_20, l_21, l_22, l_23, l_24, l_25, l_26, l_27, l_28, l_29, l_30, l_31, l_32, l_33, l_34, l_35, l_36, l_40, l_41, l_48, l_56, l_57, l_59, l_60, l_61, l_62, l_63, l_79, l_81, l_88, l_93, l_97, l_99, l_105, l_117, l_121, l_122, l_125, l_127, l_131, l_179, l_185, l_193, l_197, l_200, l_201, l_210, l_255, l_390, l_400, l_616, l_900, l_940, l_999, l_1000, l_1024, e_ltT, e_ltF, e_leT, e_leF, e_eqT, e_eqF, e_cl, e_in, e_gd, e_bd, e_ne, e_en, e_nlt, e_ltn, e_len, e_nle, e_nn, e_z0, e_z1, nI_add, pk_mul, e_sub, Nf_app, e_refl, e_reflN, reduceIte, ite_true_, ite_false_, b2, y1]
    · unfold pX11_bookLine_j48
      rw [if_pos (show oI (sI M 18 (nI x)) 36 = (40 : Int32) from h36.trans (by rw [c40]; rfl)), l_4, y2, e_bd, e_z0, e_gd]
  · obtain ⟨V1, M1, y1, y2, y3, y4⟩ := p_adv (hP.set 18 (nI x) (by omega)) (ac.set (by omega))
    have h6a : oA M1 6 = Nf g := (y4.2.1 6).trans h6
    have hRa : ∀ k, k < 22 → oJ M1 10 k = lN (wcN k) := fun k hk => by rw [y4.2.2]; exact hR k hk
    obtain ⟨nt1, np1, nb1⟩ := hN.gf (M' := M1) (fun k => y4.2.2 k)
    have e8 : oA M1 8 = oA M 8 := y4.2.1 8
    have bf1 : BF M M1 := bf18.trans y4.gf.bf
    have e36 : oI M1 36 = nI m := (y4.1 36 (by omega) (by omega) (by omega) (by omega) (by omega)).trans h36
    have ok1 := tk_ok y3
    have w6 := tk_word y3 (i := 6) (by omega)
    have w7 := tk_word y3 (i := 7) (by omega)
    have w8 := tk_word y3 (i := 8) (by omega)
    have cl : ∀ r B' V', pX0_readOfPerson B V1 V2 (nI x) = some (nI r, B', V') → (r = 0 ∨ r = 1) → pX0_readLine_j46 B V V2 (nI x) = some (nI r, B', V') := fun r B' V' h hr => by
      unfold pX0_readLine_j46
      rcases hr with e | e <;> subst e
      · simp (disch := omega) only [l_0, l_1, l_2, l_3, l_4, l_5, l_6, l_7, l_8, l_9, l_10, l_11, l_12, l_13, l_14, l_15, l_16, l_17, l_18, l_19, l_20, l_21, l_22, l_23, l_24, l_25, l_26, l_27, l_28, l_29, l_30, l_31, l_32, l_33, l_34, l_35, l_36, l_40, l_41, l_48, l_56, l_57, l_59, l_60, l_61, l_62, l_63, l_79, l_81, l_88, l_93, l_97, l_99, l_105, l_117, l_121, l_122, l_125, l_127, l_131, l_179, l_185, l_193, l_197, l_200, l_201, l_210, l_255, l_390, l_400, l_616, l_900, l_940, l_999, l_1000, l_1024, e_ltT, e_ltF, e_leT, e_leF, e_eqT, e_eqF, e_cl, e_in, e_gd, e_bd, e_ne, e_en, e_nlt, e_ltn, e_len, e_nle, e_nn, e_z0, e_z1, nI_add, pk_mul, e_sub, Nf_app, e_refl, e_reflN, reduceIte, ite_true_, ite_false_, b2, y1, ok, if_neg c9, if_neg c10, h]
      · simp (disch := omega) only [l_0, l_1, l_2, l_3, l_4, l_5, l_6, l_7, l_8, l_9, l_10, l_11, l_12, l_13, l_14, l_15, l_16, l_17, l_18, l_19, l_20, l_21, l_22, l_23, l_24, l_25, l_26, l_27, l_28, l_29, l_30, l_31, l_32, l_33, l_34, l_35, l_36, l_40, l_41, l_48, l_56, l_57, l_59, l_60, l_61, l_62, l_63, l_79, l_81, l_88, l_93, l_97, l_99, l_105, l_117, l_121, l_122, l_125, l_127, l_131, l_179, l_185, l_193, l_197, l_200, l_201, l_210, l_255, l_390, l_400, l_616, l_900, l_940, l_999, l_1000, l_1024, e_ltT, e_ltF, e_leT, e_leF, e_eqT, e_eqF, e_cl, e_in, e_gd, e_bd, e_ne, e_en, e_nlt, e_ltn, e_len, e_nle, e_nn, e_z0, e_z1, nI_add, pk_mul, e_sub, Nf_app, e_refl, e_reflN, reduceIte, ite_true_, ite_false_, b2, y1, ok, if_neg c9, if_neg c10, h]
    have h40 : ¬ oI (sI M 18 (nI x)) 36 = (40 : Int32) := fun e => by
      have e : oI M 36 = nI 40 := e
      rw [h36] at e
      exact c40 ((nI_eq (by omega) (by omega)).mp e)
    have rf : ∀ (s : Int32) X, (((pX11_isWord M1 (126943973305189 : Int64)).bind fun r11 => if r11 = 0 then (pX11_isWord M1 (6518132 : Int64)).bind fun r14 => if r14 = 0 then (pX11_isWord M1 (27973175206241651 : Int64)).bind fun r17 => if r17 = 0 then some (-1 : Int32) else some (2 : Int32) else some (1 : Int32) else some (0 : Int32)) = some s) → pX11_bookLine_j223 M1 (nI (3 * m)) (nI x) s = X → pX11_bookLine_j48 (sI M 18 (nI x)) (nI (3 * m)) (nI 0) (nI 0) = X := fun s X hs hX => by
      unfold pX11_bookLine_j48
      rw [if_neg h40, y2, e_bd, if_pos (show nI 0 = (0 : Int32) from rfl), if_pos (show nI 0 = (0 : Int32) from rfl), e18]
      rw [← hX]
      clear hX X
      revert hs
      cases pX11_isWord M1 (126943973305189 : Int64) with
      | none => intro hs; cases hs
      | some r =>
        rw [e_bd, e_bd]
        by_cases c : r = 0
        · rw [if_pos c, if_pos c]
          cases pX11_isWord M1 (6518132 : Int64) with
          | none => intro hs; cases hs
          | some r =>
            rw [e_bd, e_bd]
            by_cases c : r = 0
            · rw [if_pos c, if_pos c]
              cases pX11_isWord M1 (27973175206241651 : Int64) with
              | none => intro hs; cases hs
              | some r =>
                rw [e_bd, e_bd]
                by_cases c : r = 0
                · rw [if_pos c, if_pos c]; intro hs; cases hs; rfl
                · rw [if_neg c, if_neg c]; intro hs; cases hs; rfl
            · rw [if_neg c, if_neg c]; intro hs; cases hs; rfl
        · rw [if_neg c, if_neg c]; intro hs; cases hs; rfl
    have n10' : ¬ (nI 1 : Int32) = 0 := by decide
    have z0' : (nI 0 : Int32) = 0 := rfl
    by_cases d6 : oW V1 8 = some 6
    · rw [decide_eq_true d6, b01_t] at w6
      obtain ⟨V3, M3, s1, s2, s3, s4⟩ := p_adv y3 (tk_acW y3 d6)
      have e83 : oA M3 8 = oA M 8 := (s4.2.1 8).trans e8
      have cs : ((pX11_isWord M1 (126943973305189 : Int64)).bind fun r11 => if r11 = 0 then (pX11_isWord M1 (6518132 : Int64)).bind fun r14 => if r14 = 0 then (pX11_isWord M1 (27973175206241651 : Int64)).bind fun r17 => if r17 = 0 then some (-1 : Int32) else some (2 : Int32) else some (1 : Int32) else some (0 : Int32)) = some (0 : Int32) := by rw [lw_6, w6, e_bd, if_neg n10']
      rcases p_num (M := sA M3 8 (va_up (va_up (oA M 8) (3 * m) (nI 0)) (3 * m + 1) (nI x))) (s3.setA 8 _ (by omega)) (a := 1) (b := 20) (by omega) (by omega) with ⟨v, V4, M4, v1, v2, t1, t2, t3, t4, t5⟩ | ⟨V4, M4, t1, t2, t4, t5⟩
      · have e84 : oA M4 8 = va_up (va_up (oA M 8) (3 * m) (nI 0)) (3 * m + 1) (nI x) := by rw [t5.2.1 8, oA_self]
        have bf4 : BF M M4 := ((bf1.trans s4.gf.bf).a8 _).trans t5.bf
        have e364 : oI M4 36 = nI m := by
          have a1 := t5.1 36 (by omega) (by omega) (by omega) (by omega) (by omega) (by omega) (by omega) (by omega)
          have a2 := s4.1 36 (by omega) (by omega) (by omega) (by omega) (by omega)
          exact a1.trans (a2.trans e36)
        have add := c_addLine (B := B) (p := nI x) (q := nI v) b2 (by omega) (a := oW V1 8) ok1 (nm1 (by omega))
        refine ⟨1, addB B m (oW V1 8) (nI x) (nI v), V4, sA M4 8 (va_up (va_up (va_up (oA M 8) (3 * m) (nI 0)) (3 * m + 1) (nI x)) (3 * m + 2) (nI v)), cl _ _ _ ?_ (by omega), rf _ _ cs ?_, Or.inl ⟨rfl, by omega, t4.setA 8 _ (by omega), bf4.a8 _, e364, bl_ext hB (by omega) (fun i hi => ?_) ?_⟩⟩
        · unfold pX0_readOfPerson pX0_readOfPerson_j36
          rw [ok1, e_gd, if_pos d6, s1, e_bd, e_gd, if_pos d6]
          simp (disch := omega) only [l_0, l_1, l_2, l_3, l_4, l_5, l_6, l_7, l_8, l_9, l_10, l_11, l_12, l_13, l_14, l_15, l_16, l_17, l_18, l_19, l_20, l_21, l_22, l_23, l_24, l_25, l_26, l_27, l_28, l_29, l_30, l_31, l_32, l_33, l_34, l_35, l_36, l_40, l_41, l_48, l_56, l_57, l_59, l_60, l_61, l_62, l_63, l_79, l_81, l_88, l_93, l_97, l_99, l_105, l_117, l_121, l_122, l_125, l_127, l_131, l_179, l_185, l_193, l_197, l_200, l_201, l_210, l_255, l_390, l_400, l_616, l_900, l_940, l_999, l_1000, l_1024, e_ltT, e_ltF, e_leT, e_leF, e_eqT, e_eqF, e_cl, e_in, e_gd, e_bd, e_ne, e_en, e_nlt, e_ltn, e_len, e_nle, e_nn, e_z0, e_z1, nI_add, pk_mul, e_sub, Nf_app, e_refl, e_reflN, reduceIte, ite_true_, ite_false_, t1, add]
          rfl
        · unfold pX11_bookLine_j223
          simp (disch := omega) only [l_0, l_1, l_2, l_3, l_4, l_5, l_6, l_7, l_8, l_9, l_10, l_11, l_12, l_13, l_14, l_15, l_16, l_17, l_18, l_19, l_20, l_21, l_22, l_23, l_24, l_25, l_26, l_27, l_28, l_29, l_30, l_31, l_32, l_33, l_34, l_35, l_36, l_40, l_41, l_48, l_56, l_57, l_59, l_60, l_61, l_62, l_63, l_79, l_81, l_88, l_93, l_97, l_99, l_105, l_117, l_121, l_122, l_125, l_127, l_131, l_179, l_185, l_193, l_197, l_200, l_201, l_210, l_255, l_390, l_400, l_616, l_900, l_940, l_999, l_1000, l_1024, e_ltT, e_ltF, e_leT, e_leF, e_eqT, e_eqF, e_cl, e_in, e_gd, e_bd, e_ne, e_en, e_nlt, e_ltn, e_len, e_nle, e_nn, e_z0, e_z1, nI_add, pk_mul, e_sub, Nf_app, e_refl, e_reflN, reduceIte, ite_true_, ite_false_, oI_sI, oI_sL, oI_sW, oI_sA, oI_sJ, oI_sX, oL_sI, oL_sL, oL_sW, oL_sA, oL_sJ, oL_sX, oW_sI, oW_sL, oW_sW, oW_sA, oW_sJ, oW_sX, oA_sI, oA_sL, oA_sW, oA_sA, oA_sJ, oA_sX, oJ_sI, oJ_sL, oJ_sW, oJ_sA, oJ_sJ, oJ_sX, oX_sI, oX_sL, oX_sW, oX_sA, oX_sJ, oX_sX, Nat.reduceEqDiff, n10, n01, s2, sA_sA, e83, t2, pX11_bookLine_j292, t3, e84]
        · rw [oA_self, uv_ne (by omega), uv_ne (by omega), uv_ne (by omega)]
        · rw [oA_self]
          refine Or.inl ⟨d6, x, v, hx, v1, v2, rfl, rfl, ?_, ?_, uv_eq rfl⟩
          · rw [uv_ne (by omega), uv_ne (by omega), uv_eq rfl]
          · rw [uv_ne (by omega), uv_eq rfl]
      · refine ⟨0, B, V4, sA M4 8 (va_up (oA M4 8) (3 * m + 2) (oI M4 18)), cl _ _ _ ?_ (by omega), rf _ _ cs ?_, Or.inr ⟨rfl, t4.of (fun i => by rw [oA_sA]; simp only [Nat.reduceEqDiff, n10, n01, reduceIte]) rfl rfl, (((bf1.trans s4.gf.bf).a8 _).trans t5.bf).a8 _⟩⟩
        · unfold pX0_readOfPerson pX0_readOfPerson_j36
          rw [ok1, e_gd, if_pos d6, s1, e_bd, e_gd, if_pos d6]
          simp (disch := omega) only [l_0, l_1, l_2, l_3, l_4, l_5, l_6, l_7, l_8, l_9, l_10, l_11, l_12, l_13, l_14, l_15, l_16, l_17, l_18, l_19, l_20, l_21, l_22, l_23, l_24, l_25, l_26, l_27, l_28, l_29, l_30, l_31, l_32, l_33, l_34, l_35, l_36, l_40, l_41, l_48, l_56, l_57, l_59, l_60, l_61, l_62, l_63, l_79, l_81, l_88, l_93, l_97, l_99, l_105, l_117, l_121, l_122, l_125, l_127, l_131, l_179, l_185, l_193, l_197, l_200, l_201, l_210, l_255, l_390, l_400, l_616, l_900, l_940, l_999, l_1000, l_1024, e_ltT, e_ltF, e_leT, e_leF, e_eqT, e_eqF, e_cl, e_in, e_gd, e_bd, e_ne, e_en, e_nlt, e_ltn, e_len, e_nle, e_nn, e_z0, e_z1, nI_add, pk_mul, e_sub, Nf_app, e_refl, e_reflN, reduceIte, ite_true_, ite_false_, t1, c_addLineN]
        · unfold pX11_bookLine_j223
          simp (disch := omega) only [l_0, l_1, l_2, l_3, l_4, l_5, l_6, l_7, l_8, l_9, l_10, l_11, l_12, l_13, l_14, l_15, l_16, l_17, l_18, l_19, l_20, l_21, l_22, l_23, l_24, l_25, l_26, l_27, l_28, l_29, l_30, l_31, l_32, l_33, l_34, l_35, l_36, l_40, l_41, l_48, l_56, l_57, l_59, l_60, l_61, l_62, l_63, l_79, l_81, l_88, l_93, l_97, l_99, l_105, l_117, l_121, l_122, l_125, l_127, l_131, l_179, l_185, l_193, l_197, l_200, l_201, l_210, l_255, l_390, l_400, l_616, l_900, l_940, l_999, l_1000, l_1024, e_ltT, e_ltF, e_leT, e_leF, e_eqT, e_eqF, e_cl, e_in, e_gd, e_bd, e_ne, e_en, e_nlt, e_ltn, e_len, e_nle, e_nn, e_z0, e_z1, nI_add, pk_mul, e_sub, Nf_app, e_refl, e_reflN, reduceIte, ite_true_, ite_false_, oI_sI, oI_sL, oI_sW, oI_sA, oI_sJ, oI_sX, oL_sI, oL_sL, oL_sW, oL_sA, oL_sJ, oL_sX, oW_sI, oW_sL, oW_sW, oW_sA, oW_sJ, oW_sX, oA_sI, oA_sL, oA_sW, oA_sA, oA_sJ, oA_sX, oJ_sI, oJ_sL, oJ_sW, oJ_sA, oJ_sJ, oJ_sX, oX_sI, oX_sL, oX_sW, oX_sA, oX_sJ, oX_sX, Nat.reduceEqDiff, n10, n01, s2, sA_sA, e83, t2, pX11_bookLine_j292]
    · rw [decide_eq_false d6, b01_f] at w6
      by_cases d7 : oW V1 8 = some 7
      · rw [decide_eq_true d7, b01_t] at w7
        obtain ⟨V3, M3, s1, s2, s3, s4⟩ := p_adv y3 (tk_acW y3 d7)
        have e83 : oA M3 8 = oA M 8 := (s4.2.1 8).trans e8
        have cs : ((pX11_isWord M1 (126943973305189 : Int64)).bind fun r11 => if r11 = 0 then (pX11_isWord M1 (6518132 : Int64)).bind fun r14 => if r14 = 0 then (pX11_isWord M1 (27973175206241651 : Int64)).bind fun r17 => if r17 = 0 then some (-1 : Int32) else some (2 : Int32) else some (1 : Int32) else some (0 : Int32)) = some (1 : Int32) := by rw [lw_6, w6, e_bd, if_pos z0', lw_7, w7, e_bd, if_neg n10']
        have e364 : oI M3 36 = nI m := (s4.1 36 (by omega) (by omega) (by omega) (by omega) (by omega)).trans e36
        have add := c_addLine (B := B) (p := nI x) (q := nI 0) b2 (by omega) (a := oW V1 8) ok1 (nm1 (by omega))
        refine ⟨1, addB B m (oW V1 8) (nI x) (nI 0), V3, sA M3 8 (va_up (va_up (oA M 8) (3 * m) (nI 1)) (3 * m + 1) (nI x)), cl _ _ _ ?_ (by omega), rf _ _ cs ?_, Or.inl ⟨rfl, by omega, s3.setA 8 _ (by omega), (bf1.trans s4.gf.bf).a8 _, e364, bl_ext hB (by omega) (fun i hi => ?_) ?_⟩⟩
        · unfold pX0_readOfPerson pX0_readOfPerson_j36
          rw [ok1, e_gd, if_neg d6, e_gd, if_pos d7, s1, e_bd, e_gd, if_neg d6, e_gd, if_pos d7]
          simp (disch := omega) only [l_0, l_1, l_2, l_3, l_4, l_5, l_6, l_7, l_8, l_9, l_10, l_11, l_12, l_13, l_14, l_15, l_16, l_17, l_18, l_19, l_20, l_21, l_22, l_23, l_24, l_25, l_26, l_27, l_28, l_29, l_30, l_31, l_32, l_33, l_34, l_35, l_36, l_40, l_41, l_48, l_56, l_57, l_59, l_60, l_61, l_62, l_63, l_79, l_81, l_88, l_93, l_97, l_99, l_105, l_117, l_121, l_122, l_125, l_127, l_131, l_179, l_185, l_193, l_197, l_200, l_201, l_210, l_255, l_390, l_400, l_616, l_900, l_940, l_999, l_1000, l_1024, e_ltT, e_ltF, e_leT, e_leF, e_eqT, e_eqF, e_cl, e_in, e_gd, e_bd, e_ne, e_en, e_nlt, e_ltn, e_len, e_nle, e_nn, e_z0, e_z1, nI_add, pk_mul, e_sub, Nf_app, e_refl, e_reflN, reduceIte, ite_true_, ite_false_, pX0_readOfPerson_j91, add]
          rfl
        · unfold pX11_bookLine_j223
          simp (disch := omega) only [l_0, l_1, l_2, l_3, l_4, l_5, l_6, l_7, l_8, l_9, l_10, l_11, l_12, l_13, l_14, l_15, l_16, l_17, l_18, l_19, l_20, l_21, l_22, l_23, l_24, l_25, l_26, l_27, l_28, l_29, l_30, l_31, l_32, l_33, l_34, l_35, l_36, l_40, l_41, l_48, l_56, l_57, l_59, l_60, l_61, l_62, l_63, l_79, l_81, l_88, l_93, l_97, l_99, l_105, l_117, l_121, l_122, l_125, l_127, l_131, l_179, l_185, l_193, l_197, l_200, l_201, l_210, l_255, l_390, l_400, l_616, l_900, l_940, l_999, l_1000, l_1024, e_ltT, e_ltF, e_leT, e_leF, e_eqT, e_eqF, e_cl, e_in, e_gd, e_bd, e_ne, e_en, e_nlt, e_ltn, e_len, e_nle, e_nn, e_z0, e_z1, nI_add, pk_mul, e_sub, Nf_app, e_refl, e_reflN, reduceIte, ite_true_, ite_false_, oI_sI, oI_sL, oI_sW, oI_sA, oI_sJ, oI_sX, oL_sI, oL_sL, oL_sW, oL_sA, oL_sJ, oL_sX, oW_sI, oW_sL, oW_sW, oW_sA, oW_sJ, oW_sX, oA_sI, oA_sL, oA_sW, oA_sA, oA_sJ, oA_sX, oJ_sI, oJ_sL, oJ_sW, oJ_sA, oJ_sJ, oJ_sX, oX_sI, oX_sL, oX_sW, oX_sA, oX_sJ, oX_sX, Nat.reduceEqDiff, n10, n01, s2, sA_sA, e83]
        · rw [oA_self, uv_ne (by omega), uv_ne (by omega)]
        · rw [oA_self]
          refine Or.inr (Or.inl ⟨d7, x, hx, rfl, ?_, uv_eq rfl⟩)
          rw [uv_ne (by omega), uv_eq rfl]
      · rw [decide_eq_false d7, b01_f] at w7
        by_cases d8 : oW V1 8 = some 8
        · rw [decide_eq_true d8, b01_t] at w8
          obtain ⟨V3, M3, s1, s2, s3, s4⟩ := p_adv y3 (tk_acW y3 d8)
          have e83 : oA M3 8 = oA M 8 := (s4.2.1 8).trans e8
          have h63 : oA M3 6 = Nf g := (s4.2.1 6).trans h6a
          have cs : ((pX11_isWord M1 (126943973305189 : Int64)).bind fun r11 => if r11 = 0 then (pX11_isWord M1 (6518132 : Int64)).bind fun r14 => if r14 = 0 then (pX11_isWord M1 (27973175206241651 : Int64)).bind fun r17 => if r17 = 0 then some (-1 : Int32) else some (2 : Int32) else some (1 : Int32) else some (0 : Int32)) = some (2 : Int32) := by rw [lw_6, w6, e_bd, if_pos z0', lw_7, w7, e_bd, if_pos z0', lw_8, w8, e_bd, if_neg n10']
          obtain ⟨nt3, _, _⟩ := NR.gf (V2 := V2) (M' := M3) ⟨nt1, np1, nb1⟩ (fun k => s4.2.2 k)
          rcases p_nameT (M := sA M3 8 (va_up (va_up (oA M 8) (3 * m) (nI 2)) (3 * m + 1) (nI x))) (s3.setA 8 _ (by omega)) (fun k hk => by show oJ M3 10 k = _; rw [s4.2.2]; exact hRa k hk) (an := 8) (by omega) (by omega) (by omega) nt3 with ⟨v, V4, M4, v1, t1, t2, t3, t4, t5⟩ | ⟨V4, M4, t1, t2, t4, t5⟩
          · have e84 : oA M4 8 = va_up (va_up (oA M 8) (3 * m) (nI 2)) (3 * m + 1) (nI x) := by rw [t5.2.1 8, oA_self]
            have bf4 : BF M M4 := ((bf1.trans s4.gf.bf).a8 _).trans t5.bf
            have e364 : oI M4 36 = nI m := by
              have a1 := t5.1 36 (by omega) (by omega) (by omega) (by omega) (by omega) (by omega) (by omega) (by omega)
              have a2 := s4.1 36 (by omega) (by omega) (by omega) (by omega) (by omega)
              exact a1.trans (a2.trans e36)
            have add := c_addLine (B := B) (p := nI x) (q := nI v) b2 (by omega) (a := oW V1 8) ok1 (nm1 (by omega))
            refine ⟨1, addB B m (oW V1 8) (nI x) (nI v), V4, sA M4 8 (va_up (va_up (va_up (oA M 8) (3 * m) (nI 2)) (3 * m + 1) (nI x)) (3 * m + 2) (nI v)), cl _ _ _ ?_ (by omega), rf _ _ cs ?_, Or.inl ⟨rfl, by omega, t4.setA 8 _ (by omega), bf4.a8 _, e364, bl_ext hB (by omega) (fun i hi => ?_) ?_⟩⟩
            · unfold pX0_readOfPerson pX0_readOfPerson_j36
              rw [ok1, e_gd, if_neg d6, e_gd, if_neg d7, e_gd, if_pos d8, s1, e_bd, e_gd, if_neg d6, e_gd, if_neg d7]
              simp (disch := omega) only [l_0, l_1, l_2, l_3, l_4, l_5, l_6, l_7, l_8, l_9, l_10, l_11, l_12, l_13, l_14, l_15, l_16, l_17, l_18, l_19, l_20, l_21, l_22, l_23, l_24, l_25, l_26, l_27, l_28, l_29, l_30, l_31, l_32, l_33, l_34, l_35, l_36, l_40, l_41, l_48, l_56, l_57, l_59, l_60, l_61, l_62, l_63, l_79, l_81, l_88, l_93, l_97, l_99, l_105, l_117, l_121, l_122, l_125, l_127, l_131, l_179, l_185, l_193, l_197, l_200, l_201, l_210, l_255, l_390, l_400, l_616, l_900, l_940, l_999, l_1000, l_1024, e_ltT, e_ltF, e_leT, e_leF, e_eqT, e_eqF, e_cl, e_in, e_gd, e_bd, e_ne, e_en, e_nlt, e_ltn, e_len, e_nle, e_nn, e_z0, e_z1, nI_add, pk_mul, e_sub, Nf_app, e_refl, e_reflN, reduceIte, ite_true_, ite_false_, q_0 hq, t1, pX0_readOfPerson_j91, add]
              rfl
            · unfold pX11_bookLine_j223
              simp (disch := omega) only [l_0, l_1, l_2, l_3, l_4, l_5, l_6, l_7, l_8, l_9, l_10, l_11, l_12, l_13, l_14, l_15, l_16, l_17, l_18, l_19, l_20, l_21, l_22, l_23, l_24, l_25, l_26, l_27, l_28, l_29, l_30, l_31, l_32, l_33, l_34, l_35, l_36, l_40, l_41, l_48, l_56, l_57, l_59, l_60, l_61, l_62, l_63, l_79, l_81, l_88, l_93, l_97, l_99, l_105, l_117, l_121, l_122, l_125, l_127, l_131, l_179, l_185, l_193, l_197, l_200, l_201, l_210, l_255, l_390, l_400, l_616, l_900, l_940, l_999, l_1000, l_1024, e_ltT, e_ltF, e_leT, e_leF, e_eqT, e_eqF, e_cl, e_in, e_gd, e_bd, e_ne, e_en, e_nlt, e_ltn, e_len, e_nle, e_nn, e_z0, e_z1, nI_add, pk_mul, e_sub, Nf_app, e_refl, e_reflN, reduceIte, ite_true_, ite_false_, oI_sI, oI_sL, oI_sW, oI_sA, oI_sJ, oI_sX, oL_sI, oL_sL, oL_sW, oL_sA, oL_sJ, oL_sX, oW_sI, oW_sL, oW_sW, oW_sA, oW_sJ, oW_sX, oA_sI, oA_sL, oA_sW, oA_sA, oA_sJ, oA_sX, oJ_sI, oJ_sL, oJ_sW, oJ_sA, oJ_sJ, oJ_sX, oX_sI, oX_sL, oX_sW, oX_sA, oX_sJ, oX_sX, Nat.reduceEqDiff, n10, n01, s2, sA_sA, e83, h63, t2, pX11_bookLine_j292, t3, e84]
            · rw [oA_self, uv_ne (by omega), uv_ne (by omega), uv_ne (by omega)]
            · rw [oA_self]
              refine Or.inr (Or.inr (Or.inl ⟨d8, x, v, hx, v1, rfl, rfl, ?_, ?_, uv_eq rfl⟩))
              · rw [uv_ne (by omega), uv_ne (by omega), uv_eq rfl]
              · rw [uv_ne (by omega), uv_eq rfl]
          · refine ⟨0, B, V4, sA M4 8 (va_up (oA M4 8) (3 * m + 2) (oI M4 18)), cl _ _ _ ?_ (by omega), rf _ _ cs ?_, Or.inr ⟨rfl, t4.of (fun i => by rw [oA_sA]; simp only [Nat.reduceEqDiff, n10, n01, reduceIte]) rfl rfl, (((bf1.trans s4.gf.bf).a8 _).trans t5.bf).a8 _⟩⟩
            · unfold pX0_readOfPerson pX0_readOfPerson_j36
              rw [ok1, e_gd, if_neg d6, e_gd, if_neg d7, e_gd, if_pos d8, s1, e_bd, e_gd, if_neg d6, e_gd, if_neg d7]
              simp (disch := omega) only [l_0, l_1, l_2, l_3, l_4, l_5, l_6, l_7, l_8, l_9, l_10, l_11, l_12, l_13, l_14, l_15, l_16, l_17, l_18, l_19, l_20, l_21, l_22, l_23, l_24, l_25, l_26, l_27, l_28, l_29, l_30, l_31, l_32, l_33, l_34, l_35, l_36, l_40, l_41, l_48, l_56, l_57, l_59, l_60, l_61, l_62, l_63, l_79, l_81, l_88, l_93, l_97, l_99, l_105, l_117, l_121, l_122, l_125, l_127, l_131, l_179, l_185, l_193, l_197, l_200, l_201, l_210, l_255, l_390, l_400, l_616, l_900, l_940, l_999, l_1000, l_1024, e_ltT, e_ltF, e_leT, e_leF, e_eqT, e_eqF, e_cl, e_in, e_gd, e_bd, e_ne, e_en, e_nlt, e_ltn, e_len, e_nle, e_nn, e_z0, e_z1, nI_add, pk_mul, e_sub, Nf_app, e_refl, e_reflN, reduceIte, ite_true_, ite_false_, q_0 hq, t1, pX0_readOfPerson_j91, c_addLineN]
            · unfold pX11_bookLine_j223
              simp (disch := omega) only [l_0, l_1, l_2, l_3, l_4, l_5, l_6, l_7, l_8, l_9, l_10, l_11, l_12, l_13, l_14, l_15, l_16, l_17, l_18, l_19, l_20, l_21, l_22, l_23, l_24, l_25, l_26, l_27, l_28, l_29, l_30, l_31, l_32, l_33, l_34, l_35, l_36, l_40, l_41, l_48, l_56, l_57, l_59, l_60, l_61, l_62, l_63, l_79, l_81, l_88, l_93, l_97, l_99, l_105, l_117, l_121, l_122, l_125, l_127, l_131, l_179, l_185, l_193, l_197, l_200, l_201, l_210, l_255, l_390, l_400, l_616, l_900, l_940, l_999, l_1000, l_1024, e_ltT, e_ltF, e_leT, e_leF, e_eqT, e_eqF, e_cl, e_in, e_gd, e_bd, e_ne, e_en, e_nlt, e_ltn, e_len, e_nle, e_nn, e_z0, e_z1, nI_add, pk_mul, e_sub, Nf_app, e_refl, e_reflN, reduceIte, ite_true_, ite_false_, oI_sI, oI_sL, oI_sW, oI_sA, oI_sJ, oI_sX, oL_sI, oL_sL, oL_sW, oL_sA, oL_sJ, oL_sX, oW_sI, oW_sL, oW_sW, oW_sA, oW_sJ, oW_sX, oA_sI, oA_sL, oA_sW, oA_sA, oA_sJ, oA_sX, oJ_sI, oJ_sL, oJ_sW, oJ_sA, oJ_sJ, oJ_sX, oX_sI, oX_sL, oX_sW, oX_sA, oX_sJ, oX_sX, Nat.reduceEqDiff, n10, n01, s2, sA_sA, e83, h63, t2, pX11_bookLine_j292]
        · rw [decide_eq_false d8, b01_f] at w8
          have cs : ((pX11_isWord M1 (126943973305189 : Int64)).bind fun r11 => if r11 = 0 then (pX11_isWord M1 (6518132 : Int64)).bind fun r14 => if r14 = 0 then (pX11_isWord M1 (27973175206241651 : Int64)).bind fun r17 => if r17 = 0 then some (-1 : Int32) else some (2 : Int32) else some (1 : Int32) else some (0 : Int32)) = some (-1 : Int32) := by rw [lw_6, w6, e_bd, if_pos z0', lw_7, w7, e_bd, if_pos z0', lw_8, w8, e_bd, if_pos z0']
          obtain ⟨V3, M3, t1, t2, t4, t5⟩ := p_bad y3 (k := 1) (by omega)
          refine ⟨0, B, V3, M3, cl _ _ _ ?_ (by omega), rf _ _ cs ?_, Or.inr ⟨rfl, t4, bf1.trans t5.bf⟩⟩
          · unfold pX0_readOfPerson
            rw [ok1, e_gd, if_neg d6, e_gd, if_neg d7, e_gd, if_neg d8]
            simp (disch := omega) only [l_0, l_1, l_2, l_3, l_4, l_5, l_6, l_7, l_8, l_9, l_10, l_11, l_12, l_13, l_14, l_15, l_16, l_17, l_18, l_19, l_20, l_21, l_22, l_23, l_24, l_25, l_26, l_27, l_28, l_29, l_30, l_31, l_32, l_33, l_34, l_35, l_36, l_40, l_41, l_48, l_56, l_57, l_59, l_60, l_61, l_62, l_63, l_79, l_81, l_88, l_93, l_97, l_99, l_105, l_117, l_121, l_122, l_125, l_127, l_131, l_179, l_185, l_193, l_197, l_200, l_201, l_210, l_255, l_390, l_400, l_616, l_900, l_940, l_999, l_1000, l_1024, e_ltT, e_ltF, e_leT, e_leF, e_eqT, e_eqF, e_cl, e_in, e_gd, e_bd, e_ne, e_en, e_nlt, e_ltn, e_len, e_nle, e_nn, e_z0, e_z1, nI_add, pk_mul, e_sub, Nf_app, e_refl, e_reflN, reduceIte, ite_true_, ite_false_, t1]
          · have e0 : ¬ ((0 : Int32) ≤ -1) := by decide
            unfold pX11_bookLine_j223
            rw [if_neg e0]
            simp (disch := omega) only [l_0, l_1, l_2, l_3, l_4, l_5, l_6, l_7, l_8, l_9, l_10, l_11, l_12, l_13, l_14, l_15, l_16, l_17, l_18, l_19, l_20, l_21, l_22, l_23, l_24, l_25, l_26, l_27, l_28, l_29, l_30, l_31, l_32, l_33, l_34, l_35, l_36, l_40, l_41, l_48, l_56, l_57, l_59, l_60, l_61, l_62, l_63, l_79, l_81, l_88, l_93, l_97, l_99, l_105, l_117, l_121, l_122, l_125, l_127, l_131, l_179, l_185, l_193, l_197, l_200, l_201, l_210, l_255, l_390, l_400, l_616, l_900, l_940, l_999, l_1000, l_1024, e_ltT, e_ltF, e_leT, e_leF, e_eqT, e_eqF, e_cl, e_in, e_gd, e_bd, e_ne, e_en, e_nlt, e_ltn, e_len, e_nle, e_nn, e_z0, e_z1, nI_add, pk_mul, e_sub, Nf_app, e_refl, e_reflN, reduceIte, ite_true_, ite_false_, t2]
theorem p_bline (hP : PS V M tb z lim) (hR : ∀ k, k < 22 → oJ M 10 k = lN (wcN k)) (hQ : WQ g) (hq : QR V2 g) (h6 : oA M 6 = Nf g) (hN : NR V2 M g nn) {m : Nat} (hB : BL B M g m) (h36 : oI M 36 = nI m) :
    ∃ r B' V' M', pX0_readLine B V V2 = some (nI r, B', V') ∧ pX11_bookLine M = some (nI r, M') ∧ ((r = 1 ∧ m < 40 ∧ PS V' M' tb z lim ∧ BF M M' ∧ oI M' 36 = nI m ∧ BL B' M' g (m + 1)) ∨ (r = 0 ∧ BAD V' M' tb ∧ BF M M')) := by
  obtain ⟨b1, b2, b3⟩ := id hB
  have g0 := w_g0 hQ
  have g1 := w_g1 hQ
  have g3 := w_g3 hQ
  have ok := tk_ok hP
  have w9 := tk_word hP (i := 9) (by omega)
  have w10 := tk_word hP (i := 10) (by omega)
  obtain ⟨nt, np, nb_⟩ := id hN
  have u8 : ∀ (f : Nat → Int32) (k : Nat) (v : Int32), va_up f k v k = v := fun f k v => uv_eq rfl
  unfold pX0_readLine pX11_bookLine
  by_cases c9 : oW V 8 = some 9
  · -- stuff
    have c10 := w_ne c9 (j := 10) (by omega)
    rw [decide_eq_true c9, b01_t] at w9
    rw [decide_eq_false c10, b01_f] at w10
    by_cases c40 : m = 40
    · obtain ⟨V', M', x1, x2, x3, x4⟩ := p_bad hP (k := 4) (by omega)
      refine ⟨0, B, V', M', ?_, ?_, Or.inr ⟨rfl, x3, x4.bf⟩⟩
      · simp (disch := omega) only [l_0, l_1, l_2, l_3, l_4, l_5, l_6, l_7, l_8, l_9, l_10, l_11, l_12, l_13, l_14, l_15, l_16, l_17, l_18, l_19, l_20, l_21, l_22, l_23, l_24, l_25, l_26, l_27, l_28, l_29, l_30, l_31, l_32, l_33, l_34, l_35, l_36, l_40, l_41, l_48, l_56, l_57, l_59, l_60, l_61, l_62, l_63, l_79, l_81, l_88, l_93, l_97, l_99, l_105, l_117, l_121, l_122, l_125, l_127, l_131, l_179, l_185, l_193, l_197, l_200, l_201, l_210, l_255, l_390, l_400, l_616, l_900, l_940, l_999, l_1000, l_1024, e_ltT, e_ltF, e_leT, e_leF, e_eqT, e_eqF, e_cl, e_in, e_gd, e_bd, e_ne, e_en, e_nlt, e_ltn, e_len, e_nle, e_nn, e_z0, e_z1, nI_add, pk_mul, e_sub, Nf_app, e_refl, e_reflN, reduceIte, ite_true_, ite_false_, ok, if_pos c9, pX0_readLine_j24, pX0_readLine_j25, pX0_readLine_j46, b2, x1]
      · rw [lw_10, w10, e_bd, lw_9, w9, e_bd]
        simp (disch := omega) only [l_0, l_1, l_2, l_3, l_4, l_5, l_6, l_7, l_8, l_9, l_10, l_11, l_12, l_13, l_14, l_15, l_16, l_17, l_18, l_19, l_20, l_21, l_22, l_23, l_24, l_25, l_26, l_27, l_28, l_29, l_30, l_31, l_32, l_33, l_34, l_35, l_36, l_40, l_41, l_48, l_56, l_57, l_59, l_60, l_61, l_62, l_63, l_79, l_81, l_88, l_93, l_97, l_99, l_105, l_117, l_121, l_122, l_125, l_127, l_131, l_179, l_185, l_193, l_197, l_200, l_201, l_210, l_255, l_390, l_400, l_616, l_900, l_940, l_999, l_1000, l_1024, e_ltT, e_ltF, e_leT, e_leF, e_eqT, e_eqF, e_cl, e_in, e_gd, e_bd, e_ne, e_en, e_nlt, e_ltn, e_len, e_nle, e_nn, e_z0, e_z1, nI_add, pk_mul, e_sub, Nf_app, e_refl, e_reflN, reduceIte, ite_true_, ite_false_, pX11_bookLine_j48, h36, x2]
    · obtain ⟨V1, M1, y1, y2, y3, y4⟩ := p_adv hP (tk_acW hP c9)
      have h6a : oA M1 6 = Nf g := (y4.2.1 6).trans h6
      have hRa : ∀ k, k < 22 → oJ M1 10 k = lN (wcN k) := fun k hk => by rw [y4.2.2]; exact hR k hk
      obtain ⟨nt1, np1, nb1⟩ := hN.gf y4.2.2
      have e8 : oA M1 8 = oA M 8 := y4.2.1 8
      rcases p_nameT (M := sA M1 8 (va_up (oA M1 8) (3 * m) (nI 3))) (y3.setA 8 _ (by omega)) hRa (an := 4) (by omega) (by omega) (by omega) nb1 with ⟨x, V2', M2, x1, x2, x3, x4, x5, x6⟩ | ⟨V2', M2, x2, x3, x5, x6⟩
      · have e8b : oA M2 8 = va_up (oA M 8) (3 * m) (nI 3) := by rw [x6.2.1 8, oA_self, e8]
        have h6b : oA M2 6 = Nf g := by rw [x6.2.1 6, oA_sA]; simp only [Nat.reduceEqDiff, reduceIte]; exact h6a
        have ej : ∀ k, oJ M2 k = oJ M1 k := fun k => x6.2.2 k
        obtain ⟨nt2, np2, nb2⟩ := (NR.gf (V2 := V2) ⟨nt1, np1, nb1⟩ ej)
        rcases p_nameT (M := sA M2 8 (va_up (oA M2 8) (3 * m + 1) (nI x))) (x5.setA 8 _ (by omega)) (fun k hk => by show oJ M2 10 k = _; rw [ej]; exact hRa k hk) (an := 8) (by omega) (by omega) (by omega) nt2 with ⟨t, V3, M3, t1, t2, t3, t4, t5, t6⟩ | ⟨V3, M3, t2, t3, t5, t6⟩
        · have e8c : oA M3 8 = va_up (va_up (oA M 8) (3 * m) (nI 3)) (3 * m + 1) (nI x) := by rw [t6.2.1 8, oA_self, e8b]
          have bf3 : BF M M3 := (((y4.gf.bf).a8 _).trans x6.bf |>.a8 _).trans t6.bf
          have e36 : oI M3 36 = nI m := by
            have a1 := t6.1 36 (by omega) (by omega) (by omega) (by omega) (by omega) (by omega) (by omega) (by omega)
            have a2 := x6.1 36 (by omega) (by omega) (by omega) (by omega) (by omega) (by omega) (by omega) (by omega)
            have a3 := y4.1 36 (by omega) (by omega) (by omega) (by omega) (by omega)
            exact a1.trans (a2.trans (a3.trans h36))
          have add := c_addLine (B := B) (p := nI x) (q := nI t) b2 (by omega) (a := some 9) rfl (nm1 (by omega))
          refine ⟨1, addB B m (some 9) (nI x) (nI t), V3, sA M3 8 (va_up (va_up (va_up (oA M 8) (3 * m) (nI 3)) (3 * m + 1) (nI x)) (3 * m + 2) (nI t)), ?_, ?_, Or.inl ⟨rfl, by omega, t5.setA 8 _ (by omega), bf3.a8 _, e36, bl_ext hB (by omega) (fun i hi => ?_) ?_⟩⟩
          · simp (disch := omega) only [l_0, l_1, l_2, l_3, l_4, l_5, l_6, l_7, l_8, l_9, l_10, l_11, l_12, l_13, l_14, l_15, l_16, l_17, l_18, l_19, l_20, l_21, l_22, l_23, l_24, l_25, l_26, l_27, l_28, l_29, l_30, l_31, l_32, l_33, l_34, l_35, l_36, l_40, l_41, l_48, l_56, l_57, l_59, l_60, l_61, l_62, l_63, l_79, l_81, l_88, l_93, l_97, l_99, l_105, l_117, l_121, l_122, l_125, l_127, l_131, l_179, l_185, l_193, l_197, l_200, l_201, l_210, l_255, l_390, l_400, l_616, l_900, l_940, l_999, l_1000, l_1024, e_ltT, e_ltF, e_leT, e_leF, e_eqT, e_eqF, e_cl, e_in, e_gd, e_bd, e_ne, e_en, e_nlt, e_ltn, e_len, e_nle, e_nn, e_z0, e_z1, nI_add, pk_mul, e_sub, Nf_app, e_refl, e_reflN, reduceIte, ite_true_, ite_false_, ok, if_pos c9, pX0_readLine_j24, pX0_readLine_j25, pX0_readLine_j46, b2, y1, pX0_readStuffing, q_11 hq, q_0 hq, x2, t2, add]
            rfl
          · rw [lw_10, w10, e_bd, lw_9, w9, e_bd]
            simp (disch := omega) only [l_0, l_1, l_2, l_3, l_4, l_5, l_6, l_7, l_8, l_9, l_10, l_11, l_12, l_13, l_14, l_15, l_16, l_17, l_18, l_19, l_20, l_21, l_22, l_23, l_24, l_25, l_26, l_27, l_28, l_29, l_30, l_31, l_32, l_33, l_34, l_35, l_36, l_40, l_41, l_48, l_56, l_57, l_59, l_60, l_61, l_62, l_63, l_79, l_81, l_88, l_93, l_97, l_99, l_105, l_117, l_121, l_122, l_125, l_127, l_131, l_179, l_185, l_193, l_197, l_200, l_201, l_210, l_255, l_390, l_400, l_616, l_900, l_940, l_999, l_1000, l_1024, e_ltT, e_ltF, e_leT, e_leF, e_eqT, e_eqF, e_cl, e_in, e_gd, e_bd, e_ne, e_en, e_nlt, e_ltn, e_len, e_nle, e_nn, e_z0, e_z1, nI_add, pk_mul, e_sub, Nf_app, e_refl, e_reflN, reduceIte, ite_true_, ite_false_, oI_sI, oI_sL, oI_sW, oI_sA, oI_sJ, oI_sX, oL_sI, oL_sL, oL_sW, oL_sA, oL_sJ, oL_sX, oW_sI, oW_sL, oW_sW, oW_sA, oW_sJ, oW_sX, oA_sI, oA_sL, oA_sW, oA_sA, oA_sJ, oA_sX, oJ_sI, oJ_sL, oJ_sW, oJ_sA, oJ_sJ, oJ_sX, oX_sI, oX_sL, oX_sW, oX_sA, oX_sJ, oX_sX, Nat.reduceEqDiff, n10, n01, pX11_bookLine_j48, h36, y2, h6a, x3, x4, h6b, t3, t4, e8c]
          · rw [oA_self, uv_ne (by omega), uv_ne (by omega), uv_ne (by omega)]
          · rw [oA_self]
            refine Or.inr (Or.inr (Or.inr (Or.inl ⟨rfl, x, t, x1, t1, rfl, rfl, ?_, ?_, u8 _ _ _⟩)))
            · rw [uv_ne (by omega), uv_ne (by omega), uv_eq rfl]
            · rw [uv_ne (by omega), uv_eq rfl]
        · refine ⟨0, B, V3, M3, ?_, ?_, Or.inr ⟨rfl, t5, (((y4.gf.bf).a8 _).trans x6.bf |>.a8 _).trans t6.bf⟩⟩
          · simp (disch := omega) only [l_0, l_1, l_2, l_3, l_4, l_5, l_6, l_7, l_8, l_9, l_10, l_11, l_12, l_13, l_14, l_15, l_16, l_17, l_18, l_19, l_20, l_21, l_22, l_23, l_24, l_25, l_26, l_27, l_28, l_29, l_30, l_31, l_32, l_33, l_34, l_35, l_36, l_40, l_41, l_48, l_56, l_57, l_59, l_60, l_61, l_62, l_63, l_79, l_81, l_88, l_93, l_97, l_99, l_105, l_117, l_121, l_122, l_125, l_127, l_131, l_179, l_185, l_193, l_197, l_200, l_201, l_210, l_255, l_390, l_400, l_616, l_900, l_940, l_999, l_1000, l_1024, e_ltT, e_ltF, e_leT, e_leF, e_eqT, e_eqF, e_cl, e_in, e_gd, e_bd, e_ne, e_en, e_nlt, e_ltn, e_len, e_nle, e_nn, e_z0, e_z1, nI_add, pk_mul, e_sub, Nf_app, e_refl, e_reflN, reduceIte, ite_true_, ite_false_, ok, if_pos c9, pX0_readLine_j24, pX0_readLine_j25, pX0_readLine_j46, b2, y1, pX0_readStuffing, q_11 hq, q_0 hq, x2, t2, c_addLineN]
          · rw [lw_10, w10, e_bd, lw_9, w9, e_bd]
            simp (disch := omega) only [l_0, l_1, l_2, l_3, l_4, l_5, l_6, l_7, l_8, l_9, l_10, l_11, l_12, l_13, l_14, l_15, l_16, l_17, l_18, l_19, l_20, l_21, l_22, l_23, l_24, l_25, l_26, l_27, l_28, l_29, l_30, l_31, l_32, l_33, l_34, l_35, l_36, l_40, l_41, l_48, l_56, l_57, l_59, l_60, l_61, l_62, l_63, l_79, l_81, l_88, l_93, l_97, l_99, l_105, l_117, l_121, l_122, l_125, l_127, l_131, l_179, l_185, l_193, l_197, l_200, l_201, l_210, l_255, l_390, l_400, l_616, l_900, l_940, l_999, l_1000, l_1024, e_ltT, e_ltF, e_leT, e_leF, e_eqT, e_eqF, e_cl, e_in, e_gd, e_bd, e_ne, e_en, e_nlt, e_ltn, e_len, e_nle, e_nn, e_z0, e_z1, nI_add, pk_mul, e_sub, Nf_app, e_refl, e_reflN, reduceIte, ite_true_, ite_false_, oI_sI, oI_sL, oI_sW, oI_sA, oI_sJ, oI_sX, oL_sI, oL_sL, oL_sW, oL_sA, oL_sJ, oL_sX, oW_sI, oW_sL, oW_sW, oW_sA, oW_sJ, oW_sX, oA_sI, oA_sL, oA_sW, oA_sA, oA_sJ, oA_sX, oJ_sI, oJ_sL, oJ_sW, oJ_sA, oJ_sJ, oJ_sX, oX_sI, oX_sL, oX_sW, oX_sA, oX_sJ, oX_sX, Nat.reduceEqDiff, n10, n01, pX11_bookLine_j48, h36, y2, h6a, x3, x4, h6b, t3]
      · refine ⟨0, B, V2', M2, ?_, ?_, Or.inr ⟨rfl, x5, ((y4.gf.bf).a8 _).trans x6.bf⟩⟩
        · simp (disch := omega) only [l_0, l_1, l_2, l_3, l_4, l_5, l_6, l_7, l_8, l_9, l_10, l_11, l_12, l_13, l_14, l_15, l_16, l_17, l_18, l_19, l_20, l_21, l_22, l_23, l_24, l_25, l_26, l_27, l_28, l_29, l_30, l_31, l_32, l_33, l_34, l_35, l_36, l_40, l_41, l_48, l_56, l_57, l_59, l_60, l_61, l_62, l_63, l_79, l_81, l_88, l_93, l_97, l_99, l_105, l_117, l_121, l_122, l_125, l_127, l_131, l_179, l_185, l_193, l_197, l_200, l_201, l_210, l_255, l_390, l_400, l_616, l_900, l_940, l_999, l_1000, l_1024, e_ltT, e_ltF, e_leT, e_leF, e_eqT, e_eqF, e_cl, e_in, e_gd, e_bd, e_ne, e_en, e_nlt, e_ltn, e_len, e_nle, e_nn, e_z0, e_z1, nI_add, pk_mul, e_sub, Nf_app, e_refl, e_reflN, reduceIte, ite_true_, ite_false_, ok, if_pos c9, pX0_readLine_j24, pX0_readLine_j25, pX0_readLine_j46, b2, y1, pX0_readStuffing, q_11 hq, x2]
        · rw [lw_10, w10, e_bd, lw_9, w9, e_bd]
          simp (disch := omega) only [l_0, l_1, l_2, l_3, l_4, l_5, l_6, l_7, l_8, l_9, l_10, l_11, l_12, l_13, l_14, l_15, l_16, l_17, l_18, l_19, l_20, l_21, l_22, l_23, l_24, l_25, l_26, l_27, l_28, l_29, l_30, l_31, l_32, l_33, l_34, l_35, l_36, l_40, l_41, l_48, l_56, l_57, l_59, l_60, l_61, l_62, l_63, l_79, l_81, l_88, l_93, l_97, l_99, l_105, l_117, l_121, l_122, l_125, l_127, l_131, l_179, l_185, l_193, l_197, l_200, l_201, l_210, l_255, l_390, l_400, l_616, l_900, l_940, l_999, l_1000, l_1024, e_ltT, e_ltF, e_leT, e_leF, e_eqT, e_eqF, e_cl, e_in, e_gd, e_bd, e_ne, e_en, e_nlt, e_ltn, e_len, e_nle, e_nn, e_z0, e_z1, nI_add, pk_mul, e_sub, Nf_app, e_refl, e_reflN, reduceIte, ite_true_, ite_false_, oI_sI, oI_sL, oI_sW, oI_sA, oI_sJ, oI_sX, oL_sI, oL_sL, oL_sW, oL_sA, oL_sJ, oL_sX, oW_sI, oW_sL, oW_sW, oW_sA, oW_sJ, oW_sX, oA_sI, oA_sL, oA_sW, oA_sA, oA_sJ, oA_sX, oJ_sI, oJ_sL, oJ_sW, oJ_sA, oJ_sJ, oJ_sX, oX_sI, oX_sL, oX_sW, oX_sA, oX_sJ, oX_sX, Nat.reduceEqDiff, n10, n01, pX11_bookLine_j48, h36, y2, h6a, x3]
  · rw [decide_eq_false c9, b01_f] at w9
    by_cases c10 : oW V 8 = some 10
    · -- day
      rw [decide_eq_true c10, b01_t] at w10
      by_cases c40 : m = 40
      · obtain ⟨V', M', x1, x2, x3, x4⟩ := p_bad hP (k := 4) (by omega)
        refine ⟨0, B, V', M', ?_, ?_, Or.inr ⟨rfl, x3, x4.bf⟩⟩
        · simp (disch := omega) only [l_0, l_1, l_2, l_3, l_4, l_5, l_6, l_7, l_8, l_9, l_10, l_11, l_12, l_13, l_14, l_15, l_16, l_17, l_18, l_19, l_20, l_21, l_22, l_23, l_24, l_25, l_26, l_27, l_28, l_29, l_30, l_31, l_32, l_33, l_34, l_35, l_36, l_40, l_41, l_48, l_56, l_57, l_59, l_60, l_61, l_62, l_63, l_79, l_81, l_88, l_93, l_97, l_99, l_105, l_117, l_121, l_122, l_125, l_127, l_131, l_179, l_185, l_193, l_197, l_200, l_201, l_210, l_255, l_390, l_400, l_616, l_900, l_940, l_999, l_1000, l_1024, e_ltT, e_ltF, e_leT, e_leF, e_eqT, e_eqF, e_cl, e_in, e_gd, e_bd, e_ne, e_en, e_nlt, e_ltn, e_len, e_nle, e_nn, e_z0, e_z1, nI_add, pk_mul, e_sub, Nf_app, e_refl, e_reflN, reduceIte, ite_true_, ite_false_, ok, if_neg c9, if_pos c10, pX0_readLine_j24, pX0_readLine_j25, pX0_readLine_j46, b2, x1]
        · rw [lw_10, w10, e_bd, lw_9, w9, e_bd]
          simp (disch := omega) only [l_0, l_1, l_2, l_3, l_4, l_5, l_6, l_7, l_8, l_9, l_10, l_11, l_12, l_13, l_14, l_15, l_16, l_17, l_18, l_19, l_20, l_21, l_22, l_23, l_24, l_25, l_26, l_27, l_28, l_29, l_30, l_31, l_32, l_33, l_34, l_35, l_36, l_40, l_41, l_48, l_56, l_57, l_59, l_60, l_61, l_62, l_63, l_79, l_81, l_88, l_93, l_97, l_99, l_105, l_117, l_121, l_122, l_125, l_127, l_131, l_179, l_185, l_193, l_197, l_200, l_201, l_210, l_255, l_390, l_400, l_616, l_900, l_940, l_999, l_1000, l_1024, e_ltT, e_ltF, e_leT, e_leF, e_eqT, e_eqF, e_cl, e_in, e_gd, e_bd, e_ne, e_en, e_nlt, e_ltn, e_len, e_nle, e_nn, e_z0, e_z1, nI_add, pk_mul, e_sub, Nf_app, e_refl, e_reflN, reduceIte, ite_true_, ite_false_, pX11_bookLine_j48, h36, x2]
      · obtain ⟨V1, M1, y1, y2, y3, y4⟩ := p_adv hP (tk_acW hP c10)
        have e8 : oA M1 8 = oA M 8 := y4.2.1 8
        rcases p_num (M := sA M1 8 (va_up (oA M1 8) (3 * m) (nI 4))) (y3.setA 8 _ (by omega)) (a := 1) (b := 60) (by omega) (by omega) with ⟨v, V2', M2, v1, v2, x1, x2, x3, x4, x5⟩ | ⟨V2', M2, x1, x2, x4, x5⟩
        · have e8b : oA M2 8 = va_up (oA M 8) (3 * m) (nI 4) := by rw [x5.2.1 8, oA_self, e8]
          have e36 : oI M2 36 = nI m := by
            have a2 := x5.1 36 (by omega) (by omega) (by omega) (by omega) (by omega) (by omega) (by omega) (by omega)
            have a3 := y4.1 36 (by omega) (by omega) (by omega) (by omega) (by omega)
            exact a2.trans (a3.trans h36)
          have add := c_addLine (B := B) (p := nI 0) (q := nI v) b2 (by omega) (a := some 10) rfl (nm1 (by omega))
          refine ⟨1, addB B m (some 10) (nI 0) (nI v), V2', sA M2 8 (va_up (va_up (oA M 8) (3 * m) (nI 4)) (3 * m + 1) (nI v)), ?_, ?_, Or.inl ⟨rfl, by omega, x4.setA 8 _ (by omega), (((y4.gf.bf).a8 _).trans x5.bf).a8 _, e36, bl_ext hB (by omega) (fun i hi => ?_) ?_⟩⟩
          · simp (disch := omega) only [l_0, l_1, l_2, l_3, l_4, l_5, l_6, l_7, l_8, l_9, l_10, l_11, l_12, l_13, l_14, l_15, l_16, l_17, l_18, l_19, l_20, l_21, l_22, l_23, l_24, l_25, l_26, l_27, l_28, l_29, l_30, l_31, l_32, l_33, l_34, l_35, l_36, l_40, l_41, l_48, l_56, l_57, l_59, l_60, l_61, l_62, l_63, l_79, l_81, l_88, l_93, l_97, l_99, l_105, l_117, l_121, l_122, l_125, l_127, l_131, l_179, l_185, l_193, l_197, l_200, l_201, l_210, l_255, l_390, l_400, l_616, l_900, l_940, l_999, l_1000, l_1024, e_ltT, e_ltF, e_leT, e_leF, e_eqT, e_eqF, e_cl, e_in, e_gd, e_bd, e_ne, e_en, e_nlt, e_ltn, e_len, e_nle, e_nn, e_z0, e_z1, nI_add, pk_mul, e_sub, Nf_app, e_refl, e_reflN, reduceIte, ite_true_, ite_false_, ok, if_neg c9, if_pos c10, pX0_readLine_j24, pX0_readLine_j25, pX0_readLine_j46, b2, y1, x1, add]
            rfl
          · rw [lw_10, w10, e_bd, lw_9, w9, e_bd]
            simp (disch := omega) only [l_0, l_1, l_2, l_3, l_4, l_5, l_6, l_7, l_8, l_9, l_10, l_11, l_12, l_13, l_14, l_15, l_16, l_17, l_18, l_19, l_20, l_21, l_22, l_23, l_24, l_25, l_26, l_27, l_28, l_29, l_30, l_31, l_32, l_33, l_34, l_35, l_36, l_40, l_41, l_48, l_56, l_57, l_59, l_60, l_61, l_62, l_63, l_79, l_81, l_88, l_93, l_97, l_99, l_105, l_117, l_121, l_122, l_125, l_127, l_131, l_179, l_185, l_193, l_197, l_200, l_201, l_210, l_255, l_390, l_400, l_616, l_900, l_940, l_999, l_1000, l_1024, e_ltT, e_ltF, e_leT, e_leF, e_eqT, e_eqF, e_cl, e_in, e_gd, e_bd, e_ne, e_en, e_nlt, e_ltn, e_len, e_nle, e_nn, e_z0, e_z1, nI_add, pk_mul, e_sub, Nf_app, e_refl, e_reflN, reduceIte, ite_true_, ite_false_, oI_sI, oI_sL, oI_sW, oI_sA, oI_sJ, oI_sX, oL_sI, oL_sL, oL_sW, oL_sA, oL_sJ, oL_sX, oW_sI, oW_sL, oW_sW, oW_sA, oW_sJ, oW_sX, oA_sI, oA_sL, oA_sW, oA_sA, oA_sJ, oA_sX, oJ_sI, oJ_sL, oJ_sW, oJ_sA, oJ_sJ, oJ_sX, oX_sI, oX_sL, oX_sW, oX_sA, oX_sJ, oX_sX, Nat.reduceEqDiff, n10, n01, pX11_bookLine_j48, h36, y2, x2, x3, e8b]
          · rw [oA_self, uv_ne (by omega), uv_ne (by omega)]
          · rw [oA_self]
            refine Or.inr (Or.inr (Or.inr (Or.inr ⟨rfl, v, v1, v2, rfl, ?_, u8 _ _ _⟩)))
            rw [uv_ne (by omega), uv_eq rfl]
        · refine ⟨0, B, V2', M2, ?_, ?_, Or.inr ⟨rfl, x4, ((y4.gf.bf).a8 _).trans x5.bf⟩⟩
          · simp (disch := omega) only [l_0, l_1, l_2, l_3, l_4, l_5, l_6, l_7, l_8, l_9, l_10, l_11, l_12, l_13, l_14, l_15, l_16, l_17, l_18, l_19, l_20, l_21, l_22, l_23, l_24, l_25, l_26, l_27, l_28, l_29, l_30, l_31, l_32, l_33, l_34, l_35, l_36, l_40, l_41, l_48, l_56, l_57, l_59, l_60, l_61, l_62, l_63, l_79, l_81, l_88, l_93, l_97, l_99, l_105, l_117, l_121, l_122, l_125, l_127, l_131, l_179, l_185, l_193, l_197, l_200, l_201, l_210, l_255, l_390, l_400, l_616, l_900, l_940, l_999, l_1000, l_1024, e_ltT, e_ltF, e_leT, e_leF, e_eqT, e_eqF, e_cl, e_in, e_gd, e_bd, e_ne, e_en, e_nlt, e_ltn, e_len, e_nle, e_nn, e_z0, e_z1, nI_add, pk_mul, e_sub, Nf_app, e_refl, e_reflN, reduceIte, ite_true_, ite_false_, ok, if_neg c9, if_pos c10, pX0_readLine_j24, pX0_readLine_j25, pX0_readLine_j46, b2, y1, x1, c_addLineN]
          · rw [lw_10, w10, e_bd, lw_9, w9, e_bd]
            simp (disch := omega) only [l_0, l_1, l_2, l_3, l_4, l_5, l_6, l_7, l_8, l_9, l_10, l_11, l_12, l_13, l_14, l_15, l_16, l_17, l_18, l_19, l_20, l_21, l_22, l_23, l_24, l_25, l_26, l_27, l_28, l_29, l_30, l_31, l_32, l_33, l_34, l_35, l_36, l_40, l_41, l_48, l_56, l_57, l_59, l_60, l_61, l_62, l_63, l_79, l_81, l_88, l_93, l_97, l_99, l_105, l_117, l_121, l_122, l_125, l_127, l_131, l_179, l_185, l_193, l_197, l_200, l_201, l_210, l_255, l_390, l_400, l_616, l_900, l_940, l_999, l_1000, l_1024, e_ltT, e_ltF, e_leT, e_leF, e_eqT, e_eqF, e_cl, e_in, e_gd, e_bd, e_ne, e_en, e_nlt, e_ltn, e_len, e_nle, e_nn, e_z0, e_z1, nI_add, pk_mul, e_sub, Nf_app, e_refl, e_reflN, reduceIte, ite_true_, ite_false_, oI_sI, oI_sL, oI_sW, oI_sA, oI_sJ, oI_sX, oL_sI, oL_sL, oL_sW, oL_sA, oL_sJ, oL_sX, oW_sI, oW_sL, oW_sW, oW_sA, oW_sJ, oW_sX, oA_sI, oA_sL, oA_sW, oA_sA, oA_sJ, oA_sX, oJ_sI, oJ_sL, oJ_sW, oJ_sA, oJ_sJ, oJ_sX, oX_sI, oX_sL, oX_sW, oX_sA, oX_sJ, oX_sX, Nat.reduceEqDiff, n10, n01, pX11_bookLine_j48, h36, y2, x2]
    · -- a person
      rw [decide_eq_false c10, b01_f] at w10
      rcases p_look hP hR (an := 6) (by omega) (by omega) (by omega) np with ⟨x, x1, x2, x3, x4⟩ | ⟨V', M', x1, x2, x3, x4⟩
      · obtain ⟨r, B', V', M', y1, y2, y3⟩ := p_bperson hP hR hQ hq h6 hN hB h36 x1 x4 c9 c10
        refine ⟨r, B', V', M', ?_, ?_, y3⟩
        · simp (disch := omega) only [l_0, l_1, l_2, l_3, l_4, l_5, l_6, l_7, l_8, l_9, l_10, l_11, l_12, l_13, l_14, l_15, l_16, l_17, l_18, l_19, l_20, l_21, l_22, l_23, l_24, l_25, l_26, l_27, l_28, l_29, l_30, l_31, l_32, l_33, l_34, l_35, l_36, l_40, l_41, l_48, l_56, l_57, l_59, l_60, l_61, l_62, l_63, l_79, l_81, l_88, l_93, l_97, l_99, l_105, l_117, l_121, l_122, l_125, l_127, l_131, l_179, l_185, l_193, l_197, l_200, l_201, l_210, l_255, l_390, l_400, l_616, l_900, l_940, l_999, l_1000, l_1024, e_ltT, e_ltF, e_leT, e_leF, e_eqT, e_eqF, e_cl, e_in, e_gd, e_bd, e_ne, e_en, e_nlt, e_ltn, e_len, e_nle, e_nn, e_z0, e_z1, nI_add, pk_mul, e_sub, Nf_app, e_refl, e_reflN, reduceIte, ite_true_, ite_false_, ok, if_neg c9, if_neg c10, pX0_readLine_j25, q_4 hq, x2, y1]
        · rw [lw_10, w10, e_bd, lw_9, w9, e_bd]
          simp (disch := omega) only [l_0, l_1, l_2, l_3, l_4, l_5, l_6, l_7, l_8, l_9, l_10, l_11, l_12, l_13, l_14, l_15, l_16, l_17, l_18, l_19, l_20, l_21, l_22, l_23, l_24, l_25, l_26, l_27, l_28, l_29, l_30, l_31, l_32, l_33, l_34, l_35, l_36, l_40, l_41, l_48, l_56, l_57, l_59, l_60, l_61, l_62, l_63, l_79, l_81, l_88, l_93, l_97, l_99, l_105, l_117, l_121, l_122, l_125, l_127, l_131, l_179, l_185, l_193, l_197, l_200, l_201, l_210, l_255, l_390, l_400, l_616, l_900, l_940, l_999, l_1000, l_1024, e_ltT, e_ltF, e_leT, e_leF, e_eqT, e_eqF, e_cl, e_in, e_gd, e_bd, e_ne, e_en, e_nlt, e_ltn, e_len, e_nle, e_nn, e_z0, e_z1, nI_add, pk_mul, e_sub, Nf_app, e_refl, e_reflN, reduceIte, ite_true_, ite_false_, oI_sI, oI_sL, oI_sW, oI_sA, oI_sJ, oI_sX, oL_sI, oL_sL, oL_sW, oL_sA, oL_sJ, oL_sX, oW_sI, oW_sL, oW_sW, oW_sA, oW_sJ, oW_sX, oA_sI, oA_sL, oA_sW, oA_sA, oA_sJ, oA_sX, oJ_sI, oJ_sL, oJ_sW, oJ_sA, oJ_sJ, oJ_sX, oX_sI, oX_sL, oX_sW, oX_sA, oX_sJ, oX_sX, Nat.reduceEqDiff, n10, n01, h6, x3, h36, y2]
      · refine ⟨0, B, V', M', ?_, ?_, Or.inr ⟨rfl, x3, x4.bf⟩⟩
        · simp (disch := omega) only [l_0, l_1, l_2, l_3, l_4, l_5, l_6, l_7, l_8, l_9, l_10, l_11, l_12, l_13, l_14, l_15, l_16, l_17, l_18, l_19, l_20, l_21, l_22, l_23, l_24, l_25, l_26, l_27, l_28, l_29, l_30, l_31, l_32, l_33, l_34, l_35, l_36, l_40, l_41, l_48, l_56, l_57, l_59, l_60, l_61, l_62, l_63, l_79, l_81, l_88, l_93, l_97, l_99, l_105, l_117, l_121, l_122, l_125, l_127, l_131, l_179, l_185, l_193, l_197, l_200, l_201, l_210, l_255, l_390, l_400, l_616, l_900, l_940, l_999, l_1000, l_1024, e_ltT, e_ltF, e_leT, e_leF, e_eqT, e_eqF, e_cl, e_in, e_gd, e_bd, e_ne, e_en, e_nlt, e_ltn, e_len, e_nle, e_nn, e_z0, e_z1, nI_add, pk_mul, e_sub, Nf_app, e_refl, e_reflN, reduceIte, ite_true_, ite_false_, ok, if_neg c9, if_neg c10, pX0_readLine_j24, pX0_readLine_j25, pX0_readLine_j46, q_4 hq, x1]
        · rw [lw_10, w10, e_bd, lw_9, w9, e_bd]
          simp (disch := omega) only [l_0, l_1, l_2, l_3, l_4, l_5, l_6, l_7, l_8, l_9, l_10, l_11, l_12, l_13, l_14, l_15, l_16, l_17, l_18, l_19, l_20, l_21, l_22, l_23, l_24, l_25, l_26, l_27, l_28, l_29, l_30, l_31, l_32, l_33, l_34, l_35, l_36, l_40, l_41, l_48, l_56, l_57, l_59, l_60, l_61, l_62, l_63, l_79, l_81, l_88, l_93, l_97, l_99, l_105, l_117, l_121, l_122, l_125, l_127, l_131, l_179, l_185, l_193, l_197, l_200, l_201, l_210, l_255, l_390, l_400, l_616, l_900, l_940, l_999, l_1000, l_1024, e_ltT, e_ltF, e_leT, e_leF, e_eqT, e_eqF, e_cl, e_in, e_gd, e_bd, e_ne, e_en, e_nlt, e_ltn, e_len, e_nle, e_nn, e_z0, e_z1, nI_add, pk_mul, e_sub, Nf_app, e_refl, e_reflN, reduceIte, ite_true_, ite_false_, h6, x2]
end
