/-! a book's end -/
theorem l239_l (l1 l2 : Int32) {m : Nat} (hm : m ≤ 8) (hm1 : 1 ≤ m) (M : Ob) (hu : oI M 23 = nI m) (f : Nat → Int32) : ∀ (n k : Nat), k ≤ 88 → 88 - k < n → pX11_book_l239 l1 l2 n (nI k) (sA M 21 (cpn (oA M 22) f (88 * (m - 1)) 0 k)) = some (sA M 21 (cpn (oA M 22) f (88 * (m - 1)) 0 88))
  | 0, _, _, h => by omega
  | n + 1, k, h1, h2 => by
    rw [pX11_book_l239]
    by_cases hz : k = 88
    · subst hz; simp (disch := omega) only [l_0, l_1, l_2, l_3, l_4, l_5, l_6, l_7, l_8, l_9, l_10, l_11, l_12, l_13, l_14, l_15, l_16, l_17, l_18, l_19, l_20, l_21, l_22, l_23, l_24, l_25, l_26, l_27, l_28, l_29, l_30, l_31, l_32, l_33, l_34, l_35, l_36, l_40, l_41, l_48, l_56, l_57, l_59, l_60, l_61, l_62, l_63, l_79, l_81, l_88, l_93, l_97, l_99, l_105, l_117, l_121, l_122, l_125, l_127, l_131, l_179, l_185, l_193, l_197, l_200, l_201, l_210, l_255, l_390, l_400, l_616, l_900, l_940, l_999, l_1000, l_1024, e_ltT, e_ltF, e_leT, e_leF, e_eqT, e_eqF, e_cl, e_in, e_gd, e_bd, e_ne, e_en, e_nlt, e_ltn, e_len, e_nle, e_nn, e_z0, e_z1, nI_add, pk_mul, e_sub, Nf_app, e_refl, e_reflN, reduceIte, ite_true_, ite_false_, oA_self]
    · have ih := l239_l l1 l2 hm hm1 M hu f n (k + 1) (by omega) (by omega)
      have e := cpn_s (oA M 22) f (88 * (m - 1)) 0 k
      rw [Nat.zero_add] at e
      simp (disch := omega) only [l_0, l_1, l_2, l_3, l_4, l_5, l_6, l_7, l_8, l_9, l_10, l_11, l_12, l_13, l_14, l_15, l_16, l_17, l_18, l_19, l_20, l_21, l_22, l_23, l_24, l_25, l_26, l_27, l_28, l_29, l_30, l_31, l_32, l_33, l_34, l_35, l_36, l_40, l_41, l_48, l_56, l_57, l_59, l_60, l_61, l_62, l_63, l_79, l_81, l_88, l_93, l_97, l_99, l_105, l_117, l_121, l_122, l_125, l_127, l_131, l_179, l_185, l_193, l_197, l_200, l_201, l_210, l_255, l_390, l_400, l_616, l_900, l_940, l_999, l_1000, l_1024, e_ltT, e_ltF, e_leT, e_leF, e_eqT, e_eqF, e_cl, e_in, e_gd, e_bd, e_ne, e_en, e_nlt, e_ltn, e_len, e_nle, e_nn, e_z0, e_z1, nI_add, pk_mul, e_sub, Nf_app, e_refl, e_reflN, reduceIte, ite_true_, ite_false_, oI_sI, oI_sL, oI_sW, oI_sA, oI_sJ, oI_sX, oL_sI, oL_sL, oL_sW, oL_sA, oL_sJ, oL_sX, oW_sI, oW_sL, oW_sW, oW_sA, oW_sJ, oW_sX, oA_sI, oA_sL, oA_sW, oA_sA, oA_sJ, oA_sX, oJ_sI, oJ_sL, oJ_sW, oJ_sA, oJ_sJ, oJ_sX, oX_sI, oX_sL, oX_sW, oX_sA, oX_sJ, oX_sX, Nat.reduceEqDiff, n10, n01, hu, sA_sA, e, ih]
theorem ku_put {u Y : Nat → Int32} {g g' : Nat → Nat} {m : Nat} (hm : m ≤ 8) (hY : ∀ k, k < 88 → Y k = nI (g (121 + k))) : cpn Y (ku u (Nf g') m) (88 * (min (m + 1) 8 - 1)) 0 88 = ku u (Nf g) m := funext fun k => by
  unfold ku
  by_cases c : m = 8
  · rw [if_pos c, if_pos c, show 88 * (min (m + 1) 8 - 1) = 88 * 7 by omega]
    by_cases d : 88 * 7 ≤ k ∧ k < 88 * 7 + 88
    · rw [cpn_in d.1 d.2, cpn_in d.1 d.2, Nf_app, hY _ (by omega), Nat.zero_add]
    · rw [cpn_out (by omega)]
      exact (cpn_out (by omega)).trans (cpn_out (by omega)).symm
  · rw [if_neg c, if_neg c, show 88 * (min (m + 1) 8 - 1) = 88 * m by omega]
    by_cases d : 88 * m ≤ k ∧ k < 88 * m + 88
    · rw [cpn_in d.1 d.2, cpn_in d.1 d.2, Nf_app, hY _ (by omega), Nat.zero_add]
    · rw [cpn_out (by omega)]
      exact (cpn_out (by omega)).trans (cpn_out (by omega)).symm
/-- the reference's unit when a book was lived -/
def Mb (M : Ob) (g g' : Nat → Nat) (X : Nat → Int32) : Ob := sI (Mx (sA M 22 (cpn (Nf g) (oA M 22) 0 121 88)) g' X) 38 (nI 1)
theorem Mb_22 (M : Ob) (g g' : Nat → Nat) (X : Nat → Int32) : oA (Mb M g g' X) 22 = cpn (Nf g) (oA M 22) 0 121 88 := rfl
theorem Mb_6 (M : Ob) (g g' : Nat → Nat) (X : Nat → Int32) : oA (Mb M g g' X) 6 = Nf g' := rfl
theorem Mb_21 (M : Ob) (g g' : Nat → Nat) (X : Nat → Int32) : oA (Mb M g g' X) 21 = oA M 21 := rfl
theorem Mb_37 (M : Ob) (g g' : Nat → Nat) (X : Nat → Int32) : oA (Mb M g g' X) 37 = X := rfl
theorem Mb_23 (M : Ob) (g g' : Nat → Nat) (X : Nat → Int32) : oI (Mb M g g' X) 23 = oI M 23 := rfl
theorem Mb_of (M : Ob) (g g' : Nat → Nat) (X : Nat → Int32) : sI (Mx (sA M 22 (cpn (Nf g) (oA M 22) 0 121 88)) g' X) 38 (nI 1) = Mb M g g' X := rfl
section
variable {V2 V3 V13 M B : Ob} {m N : Nat} {g : Nat → Nat}
theorem book_end (hQ : WQ g) (hW : WS N g) (hd : g 121 ≤ 400) (hq : QR V2 g) (hS : SR V3 g) (h6 : oA M 6 = Nf g) (hB : BL B M g m) (h36 : oI M 36 = nI m) (h11 : oI M 11 = nI 0) (f : Nat) (a : Int32) :
    ∃ T B' T' g' X w c, pX6_copyFrom V13 V3 = some T ∧ pX0_live B V2 T = some (B', T') ∧ w < 100 ∧ c ≤ 40 ∧ oI B' 4 = nI 1 ∧ oI B' 5 = nI w ∧ oI B' 6 = nI c ∧ oI B' 7 = nI (g' 121) ∧ oI B' 8 = nI (sm (fun t => g' (185 + t)) 8) ∧ X 0 = nI w ∧ X 1 = nI c ∧ X 2 = nI (g' 121) ∧ X 3 = nI (sm (fun t => g' (185 + t)) 8) ∧ Sm g g' ∧ WS (N + 360) g' ∧ g' 121 ≤ 400 ∧ SR T' g' ∧
      (a = nI 0 → pX11_book_l39 a (f + 1) M = some (if w = 0 then -nI 1 else nI c, sA (Mb M g g' X) 6 (Nf g))) ∧
      (a = nI 1 → c = 0 → g' = g ∧ pX11_book_l39 a (f + 1) M = some (if w = 0 then -nI 1 else nI c, Mb M g g' X)) ∧
      (a = nI 1 → 0 < c → ∀ mm, mm ≤ 8 → oI M 23 = nI mm → pX11_book_l39 a (f + 1) M = some (if w = 0 then -nI 1 else nI c, sI (sA (Mb M g g' X) 21 (ku (oA M 21) (Nf g) mm)) 23 (nI (min (mm + 1) 8)))) := by
  obtain ⟨b1, b2, b3⟩ := hB
  obtain ⟨T, t1, t2⟩ := c_copy (S := V13) hW hQ hS
  have tr := r_tries M
  rw [h6] at tr
  obtain ⟨X0, y1, y2⟩ := r_l89 a fu 0 (sA M 22 (cpn (Nf g) (oA M 22) 0 121 88)) (by omega) (by rw [fu_eq]; omega) (fun j hj => by omega)
  have em : sA (sA M 22 (cpn (Nf g) (oA M 22) 0 121 88)) 37 X0 = Mx (sA M 22 (cpn (Nf g) (oA M 22) 0 121 88)) g X0 := by
    have e : sA (sA M 22 (cpn (Nf g) (oA M 22) 0 121 88)) 6 (Nf g) = sA M 22 (cpn (Nf g) (oA M 22) 0 121 88) := by
      have := sA_self (sA M 22 (cpn (Nf g) (oA M 22) 0 121 88)) 6
      rw [oA_sA, if_neg (by omega), h6] at this
      exact this
    unfold Mx
    rw [e]
  rw [em] at y1
  obtain ⟨S', T', g', X', w, c, z1, z2, z3, z4, z5, z6, z7, z8, z9, z10, z11, z12, z13, z14⟩ := live_l (B := B) (M0 := sA M 22 (cpn (Nf g) (oA M 22) 0 121 88)) hQ hq b1 h36 b3 a fu 0 (g := g) (N := N) (S := sI (sI B 5 (nI 0)) 6 (nI 0)) (Sb := T) (X := X0) (by omega) (by rw [fu_eq]; omega) (Sm.refl _) hW hd t2 rfl rfl rfl (by simp (disch := omega) only [l_0, l_1, l_2, l_3, l_4, l_5, l_6, l_7, l_8, l_9, l_10, l_11, l_12, l_13, l_14, l_15, l_16, l_17, l_18, l_19, l_20, l_21, l_22, l_23, l_24, l_25, l_26, l_27, l_28, l_29, l_30, l_31, l_32, l_33, l_34, l_35, l_36, l_40, l_41, l_48, l_56, l_57, l_59, l_60, l_61, l_62, l_63, l_79, l_81, l_88, l_93, l_97, l_99, l_105, l_117, l_121, l_122, l_125, l_127, l_131, l_179, l_185, l_193, l_197, l_200, l_201, l_210, l_255, l_390, l_400, l_616, l_900, l_940, l_999, l_1000, l_1024, e_ltT, e_ltF, e_leT, e_leF, e_eqT, e_eqF, e_cl, e_in, e_gd, e_bd, e_ne, e_en, e_nlt, e_ltn, e_len, e_nle, e_nn, e_z0, e_z1, nI_add, pk_mul, e_sub, Nf_app, e_refl, e_reflN, reduceIte, ite_true_, ite_false_, oI_sI, oI_sL, oI_sW, oI_sA, oI_sJ, oI_sX, oL_sI, oL_sL, oL_sW, oL_sA, oL_sJ, oL_sX, oW_sI, oW_sL, oW_sW, oW_sA, oW_sJ, oW_sX, oA_sI, oA_sL, oA_sW, oA_sA, oA_sJ, oA_sX, oJ_sI, oJ_sL, oJ_sW, oJ_sA, oJ_sJ, oJ_sX, oX_sI, oX_sL, oX_sW, oX_sA, oX_sJ, oX_sX, Nat.reduceEqDiff, n10, n01, b2]) (by simp (disch := omega) only [l_0, l_1, l_2, l_3, l_4, l_5, l_6, l_7, l_8, l_9, l_10, l_11, l_12, l_13, l_14, l_15, l_16, l_17, l_18, l_19, l_20, l_21, l_22, l_23, l_24, l_25, l_26, l_27, l_28, l_29, l_30, l_31, l_32, l_33, l_34, l_35, l_36, l_40, l_41, l_48, l_56, l_57, l_59, l_60, l_61, l_62, l_63, l_79, l_81, l_88, l_93, l_97, l_99, l_105, l_117, l_121, l_122, l_125, l_127, l_131, l_179, l_185, l_193, l_197, l_200, l_201, l_210, l_255, l_390, l_400, l_616, l_900, l_940, l_999, l_1000, l_1024, e_ltT, e_ltF, e_leT, e_leF, e_eqT, e_eqF, e_cl, e_in, e_gd, e_bd, e_ne, e_en, e_nlt, e_ltn, e_len, e_nle, e_nn, e_z0, e_z1, nI_add, pk_mul, e_sub, Nf_app, e_refl, e_reflN, reduceIte, ite_true_, ite_false_, oI_sI, oI_sL, oI_sW, oI_sA, oI_sJ, oI_sX, oL_sI, oL_sL, oL_sW, oL_sA, oL_sJ, oL_sX, oW_sI, oW_sL, oW_sW, oW_sA, oW_sJ, oW_sX, oA_sI, oA_sL, oA_sW, oA_sA, oA_sJ, oA_sX, oJ_sI, oJ_sL, oJ_sW, oJ_sA, oJ_sJ, oJ_sX, oX_sI, oX_sL, oX_sW, oX_sA, oX_sJ, oX_sX, Nat.reduceEqDiff, n10, n01, b2]) (by simp (disch := omega) only [l_0, l_1, l_2, l_3, l_4, l_5, l_6, l_7, l_8, l_9, l_10, l_11, l_12, l_13, l_14, l_15, l_16, l_17, l_18, l_19, l_20, l_21, l_22, l_23, l_24, l_25, l_26, l_27, l_28, l_29, l_30, l_31, l_32, l_33, l_34, l_35, l_36, l_40, l_41, l_48, l_56, l_57, l_59, l_60, l_61, l_62, l_63, l_79, l_81, l_88, l_93, l_97, l_99, l_105, l_117, l_121, l_122, l_125, l_127, l_131, l_179, l_185, l_193, l_197, l_200, l_201, l_210, l_255, l_390, l_400, l_616, l_900, l_940, l_999, l_1000, l_1024, e_ltT, e_ltF, e_leT, e_leF, e_eqT, e_eqF, e_cl, e_in, e_gd, e_bd, e_ne, e_en, e_nlt, e_ltn, e_len, e_nle, e_nn, e_z0, e_z1, nI_add, pk_mul, e_sub, Nf_app, e_refl, e_reflN, reduceIte, ite_true_, ite_false_, oI_sI, oI_sL, oI_sW, oI_sA, oI_sJ, oI_sX, oL_sI, oL_sL, oL_sW, oL_sA, oL_sJ, oL_sX, oW_sI, oW_sL, oW_sW, oW_sA, oW_sJ, oW_sX, oA_sI, oA_sL, oA_sW, oA_sA, oA_sJ, oA_sX, oJ_sI, oJ_sL, oJ_sW, oJ_sA, oJ_sJ, oJ_sX, oX_sI, oX_sL, oX_sW, oX_sA, oX_sJ, oX_sX, Nat.reduceEqDiff, n10, n01, b2]) (y2 0 (by omega)) (y2 1 (by omega))
  have e7 := s_7 z13
  have e8 := s_8 z13
  have bag := r_bag (M := Mx (sA M 22 (cpn (Nf g) (oA M 22) 0 121 88)) g' (va_up X' 2 (nI (g' 121)))) (g := g') rfl
  have pre : ∀ (F : Ob → Option (Int32 × Ob)), (∀ x, x = (if a = (1 : Int32) then
        if oA (Mb M g g' (va_up (va_up X' 2 (nI (g' 121))) 3 (nI (sm (fun t => g' (185 + t)) 8)))) 37 1 ≤ 0 then
          pX11_book_j273 (Mb M g g' (va_up (va_up X' 2 (nI (g' 121))) 3 (nI (sm (fun t => g' (185 + t)) 8)))) a (if w = 0 then -nI 1 else nI c)
        else
          (pX11_keep (Mb M g g' (va_up (va_up X' 2 (nI (g' 121))) 3 (nI (sm (fun t => g' (185 + t)) 8))))).bind fun r32 =>
          (pX11_book_l239 a (if w = 0 then -nI 1 else nI c) fu (0 : Int32) r32).bind fun r37 =>
          if a = 0 then
            (pX11_back r37).bind fun r40 =>
            some (if w = 0 then -nI 1 else nI c, r40)
          else
            some (if w = 0 then -nI 1 else nI c, r37)
      else
        pX11_book_j273 (Mb M g g' (va_up (va_up X' 2 (nI (g' 121))) 3 (nI (sm (fun t => g' (185 + t)) 8)))) a (if w = 0 then -nI 1 else nI c)) → pX11_book_l39 a (f + 1) M = x) := fun F x hx => by
    have y1' : pX11_book_l89 a fu (0 : Int32) (sA M 22 (cpn (Nf g) (oA M 22) 0 121 88)) = some (Mx (sA M 22 (cpn (Nf g) (oA M 22) 0 121 88)) g X0) := y1
    have z2' : pX11_book_l111 a fu (-1 : Int32) (0 : Int32) (Mx (sA M 22 (cpn (Nf g) (oA M 22) 0 121 88)) g X0) = some (if w = 0 then -nI 1 else nI c, Mx (sA M 22 (cpn (Nf g) (oA M 22) 0 121 88)) g' X') := z2
    rw [hx, pX11_book_l39, h11, if_pos l_0.symm, tr, e_bd, y1', e_bd, z2', e_bd]
    simp only [Mx_37, Mx_6, Mx_s37, Nf_app]
    rw [bag, e_bd]
    rfl
  have pre := pre (fun _ => none)
  refine ⟨T, sI (sI (sI S' 7 (nI (g' 121))) 8 (nI (sm (fun t => g' (185 + t)) 8))) 4 (nI 1), T', g', va_up (va_up X' 2 (nI (g' 121))) 3 (nI (sm (fun t => g' (185 + t)) 8)), w, c, t1, ?_, z3, z4, by simp (disch := omega) only [l_0, l_1, l_2, l_3, l_4, l_5, l_6, l_7, l_8, l_9, l_10, l_11, l_12, l_13, l_14, l_15, l_16, l_17, l_18, l_19, l_20, l_21, l_22, l_23, l_24, l_25, l_26, l_27, l_28, l_29, l_30, l_31, l_32, l_33, l_34, l_35, l_36, l_40, l_41, l_48, l_56, l_57, l_59, l_60, l_61, l_62, l_63, l_79, l_81, l_88, l_93, l_97, l_99, l_105, l_117, l_121, l_122, l_125, l_127, l_131, l_179, l_185, l_193, l_197, l_200, l_201, l_210, l_255, l_390, l_400, l_616, l_900, l_940, l_999, l_1000, l_1024, e_ltT, e_ltF, e_leT, e_leF, e_eqT, e_eqF, e_cl, e_in, e_gd, e_bd, e_ne, e_en, e_nlt, e_ltn, e_len, e_nle, e_nn, e_z0, e_z1, nI_add, pk_mul, e_sub, Nf_app, e_refl, e_reflN, reduceIte, ite_true_, ite_false_, oI_sI, oI_sL, oI_sW, oI_sA, oI_sJ, oI_sX, oL_sI, oL_sL, oL_sW, oL_sA, oL_sJ, oL_sX, oW_sI, oW_sL, oW_sW, oW_sA, oW_sJ, oW_sX, oA_sI, oA_sL, oA_sW, oA_sA, oA_sJ, oA_sX, oJ_sI, oJ_sL, oJ_sW, oJ_sA, oJ_sJ, oJ_sX, oX_sI, oX_sL, oX_sW, oX_sA, oX_sJ, oX_sX, Nat.reduceEqDiff, n10, n01, z6], by simp (disch := omega) only [l_0, l_1, l_2, l_3, l_4, l_5, l_6, l_7, l_8, l_9, l_10, l_11, l_12, l_13, l_14, l_15, l_16, l_17, l_18, l_19, l_20, l_21, l_22, l_23, l_24, l_25, l_26, l_27, l_28, l_29, l_30, l_31, l_32, l_33, l_34, l_35, l_36, l_40, l_41, l_48, l_56, l_57, l_59, l_60, l_61, l_62, l_63, l_79, l_81, l_88, l_93, l_97, l_99, l_105, l_117, l_121, l_122, l_125, l_127, l_131, l_179, l_185, l_193, l_197, l_200, l_201, l_210, l_255, l_390, l_400, l_616, l_900, l_940, l_999, l_1000, l_1024, e_ltT, e_ltF, e_leT, e_leF, e_eqT, e_eqF, e_cl, e_in, e_gd, e_bd, e_ne, e_en, e_nlt, e_ltn, e_len, e_nle, e_nn, e_z0, e_z1, nI_add, pk_mul, e_sub, Nf_app, e_refl, e_reflN, reduceIte, ite_true_, ite_false_, oI_sI, oI_sL, oI_sW, oI_sA, oI_sJ, oI_sX, oL_sI, oL_sL, oL_sW, oL_sA, oL_sJ, oL_sX, oW_sI, oW_sL, oW_sW, oW_sA, oW_sJ, oW_sX, oA_sI, oA_sL, oA_sW, oA_sA, oA_sJ, oA_sX, oJ_sI, oJ_sL, oJ_sW, oJ_sA, oJ_sJ, oJ_sX, oX_sI, oX_sL, oX_sW, oX_sA, oX_sJ, oX_sX, Nat.reduceEqDiff, n10, n01, z6], by simp (disch := omega) only [l_0, l_1, l_2, l_3, l_4, l_5, l_6, l_7, l_8, l_9, l_10, l_11, l_12, l_13, l_14, l_15, l_16, l_17, l_18, l_19, l_20, l_21, l_22, l_23, l_24, l_25, l_26, l_27, l_28, l_29, l_30, l_31, l_32, l_33, l_34, l_35, l_36, l_40, l_41, l_48, l_56, l_57, l_59, l_60, l_61, l_62, l_63, l_79, l_81, l_88, l_93, l_97, l_99, l_105, l_117, l_121, l_122, l_125, l_127, l_131, l_179, l_185, l_193, l_197, l_200, l_201, l_210, l_255, l_390, l_400, l_616, l_900, l_940, l_999, l_1000, l_1024, e_ltT, e_ltF, e_leT, e_leF, e_eqT, e_eqF, e_cl, e_in, e_gd, e_bd, e_ne, e_en, e_nlt, e_ltn, e_len, e_nle, e_nn, e_z0, e_z1, nI_add, pk_mul, e_sub, Nf_app, e_refl, e_reflN, reduceIte, ite_true_, ite_false_, oI_sI, oI_sL, oI_sW, oI_sA, oI_sJ, oI_sX, oL_sI, oL_sL, oL_sW, oL_sA, oL_sJ, oL_sX, oW_sI, oW_sL, oW_sW, oW_sA, oW_sJ, oW_sX, oA_sI, oA_sL, oA_sW, oA_sA, oA_sJ, oA_sX, oJ_sI, oJ_sL, oJ_sW, oJ_sA, oJ_sJ, oJ_sX, oX_sI, oX_sL, oX_sW, oX_sA, oX_sJ, oX_sX, Nat.reduceEqDiff, n10, n01, z7], by simp (disch := omega) only [l_0, l_1, l_2, l_3, l_4, l_5, l_6, l_7, l_8, l_9, l_10, l_11, l_12, l_13, l_14, l_15, l_16, l_17, l_18, l_19, l_20, l_21, l_22, l_23, l_24, l_25, l_26, l_27, l_28, l_29, l_30, l_31, l_32, l_33, l_34, l_35, l_36, l_40, l_41, l_48, l_56, l_57, l_59, l_60, l_61, l_62, l_63, l_79, l_81, l_88, l_93, l_97, l_99, l_105, l_117, l_121, l_122, l_125, l_127, l_131, l_179, l_185, l_193, l_197, l_200, l_201, l_210, l_255, l_390, l_400, l_616, l_900, l_940, l_999, l_1000, l_1024, e_ltT, e_ltF, e_leT, e_leF, e_eqT, e_eqF, e_cl, e_in, e_gd, e_bd, e_ne, e_en, e_nlt, e_ltn, e_len, e_nle, e_nn, e_z0, e_z1, nI_add, pk_mul, e_sub, Nf_app, e_refl, e_reflN, reduceIte, ite_true_, ite_false_, oI_sI, oI_sL, oI_sW, oI_sA, oI_sJ, oI_sX, oL_sI, oL_sL, oL_sW, oL_sA, oL_sJ, oL_sX, oW_sI, oW_sL, oW_sW, oW_sA, oW_sJ, oW_sX, oA_sI, oA_sL, oA_sW, oA_sA, oA_sJ, oA_sX, oJ_sI, oJ_sL, oJ_sW, oJ_sA, oJ_sJ, oJ_sX, oX_sI, oX_sL, oX_sW, oX_sA, oX_sJ, oX_sX, Nat.reduceEqDiff, n10, n01, z7], by simp (disch := omega) only [l_0, l_1, l_2, l_3, l_4, l_5, l_6, l_7, l_8, l_9, l_10, l_11, l_12, l_13, l_14, l_15, l_16, l_17, l_18, l_19, l_20, l_21, l_22, l_23, l_24, l_25, l_26, l_27, l_28, l_29, l_30, l_31, l_32, l_33, l_34, l_35, l_36, l_40, l_41, l_48, l_56, l_57, l_59, l_60, l_61, l_62, l_63, l_79, l_81, l_88, l_93, l_97, l_99, l_105, l_117, l_121, l_122, l_125, l_127, l_131, l_179, l_185, l_193, l_197, l_200, l_201, l_210, l_255, l_390, l_400, l_616, l_900, l_940, l_999, l_1000, l_1024, e_ltT, e_ltF, e_leT, e_leF, e_eqT, e_eqF, e_cl, e_in, e_gd, e_bd, e_ne, e_en, e_nlt, e_ltn, e_len, e_nle, e_nn, e_z0, e_z1, nI_add, pk_mul, e_sub, Nf_app, e_refl, e_reflN, reduceIte, ite_true_, ite_false_, oI_sI, oI_sL, oI_sW, oI_sA, oI_sJ, oI_sX, oL_sI, oL_sL, oL_sW, oL_sA, oL_sJ, oL_sX, oW_sI, oW_sL, oW_sW, oW_sA, oW_sJ, oW_sX, oA_sI, oA_sL, oA_sW, oA_sA, oA_sJ, oA_sX, oJ_sI, oJ_sL, oJ_sW, oJ_sA, oJ_sJ, oJ_sX, oX_sI, oX_sL, oX_sW, oX_sA, oX_sJ, oX_sX, Nat.reduceEqDiff, n10, n01, z7], ?_, ?_, ?_, uv_eq rfl, z10, WS.mono (by omega) z11, z12, z13, fun ha => ?_, fun ha hc => ⟨z14 hc, ?_⟩, fun ha hc mm hmm hu => ?_⟩
  · unfold pX0_live
    have z1' : pX0_live_l12 V2 fu (0 : Int32) (sI (sI B 5 (0 : Int32)) 6 (0 : Int32)) T = some (S', T') := z1
    rw [z1', e_bd, e7, e8]; rfl
  · rw [uv_ne (by omega), uv_ne (by omega)]; exact z8
  · rw [uv_ne (by omega), uv_ne (by omega)]; exact z9
  · rw [uv_ne (by omega), uv_eq rfl]
  · refine pre _ ?_
    rw [ha, if_neg (show ¬ nI 0 = (1 : Int32) by decide)]
    unfold pX11_book_j273
    rw [if_pos l_0.symm, r_back, e_bd, Mb_22, Mb_6, back_g z10 (fun k hk => by rw [cpn_in (by omega) (by omega), Nf_app, Nat.sub_zero])]
  · refine pre _ ?_
    have e1 : oA (Mb M g g' (va_up (va_up X' 2 (nI (g' 121))) 3 (nI (sm (fun t => g' (185 + t)) 8)))) 37 1 ≤ 0 := by
      rw [Mb_37, uv_ne (by omega), uv_ne (by omega), z9, hc]; exact Int32.le_refl _
    rw [if_pos (show a = (1 : Int32) from ha), if_pos e1]
    unfold pX11_book_j273
    rw [ha, if_neg n1z]
  · refine pre _ ?_
    have e1 : ¬ oA (Mb M g g' (va_up (va_up X' 2 (nI (g' 121))) 3 (nI (sm (fun t => g' (185 + t)) 8)))) 37 1 ≤ 0 := by
      rw [Mb_37, uv_ne (by omega), uv_ne (by omega), z9]; exact nI_ge hc (by omega)
    rw [if_pos (show a = (1 : Int32) from ha), if_neg e1, r_keep hmm (by rw [Mb_23]; exact hu), e_bd, Mb_21, Mb_6]
    generalize hX : va_up (va_up X' 2 (nI (g' 121))) 3 (nI (sm (fun t => g' (185 + t)) 8)) = XX
    have lp := l239_l a (if w = 0 then -nI 1 else nI c) (m := min (mm + 1) 8) (by omega) (by omega) (sI (sA (Mb M g g' XX) 21 (ku (oA M 21) (Nf g') mm)) 23 (nI (min (mm + 1) 8))) (by rw [oI_sI, if_pos rfl]) (ku (oA M 21) (Nf g') mm) fu 0 (by omega) (by rw [fu_eq]; omega)
    rw [cpn_0] at lp
    have s0 : sA (sI (sA (Mb M g g' XX) 21 (ku (oA M 21) (Nf g') mm)) 23 (nI (min (mm + 1) 8))) 21 (ku (oA M 21) (Nf g') mm) = sI (sA (Mb M g g' XX) 21 (ku (oA M 21) (Nf g') mm)) 23 (nI (min (mm + 1) 8)) := by rw [sI_sA, sA_sA]
    have s1 : ∀ W, sA (sI (sA (Mb M g g' XX) 21 (ku (oA M 21) (Nf g') mm)) 23 (nI (min (mm + 1) 8))) 21 W = sI (sA (Mb M g g' XX) 21 W) 23 (nI (min (mm + 1) 8)) := fun W => by rw [sI_sA, sA_sA]
    have s2 : oA (sI (sA (Mb M g g' XX) 21 (ku (oA M 21) (Nf g') mm)) 23 (nI (min (mm + 1) 8))) 22 = cpn (Nf g) (oA M 22) 0 121 88 := rfl
    rw [s0, s1, s2, ku_put hmm (fun k hk => by rw [cpn_in (by omega) (by omega), Nf_app, Nat.sub_zero])] at lp
    rw [l_0, lp, e_bd, ha, if_neg (show ¬ nI 1 = nI 0 by decide)]
end
