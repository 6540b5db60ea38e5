/-! a book read, a book lived -/
section
variable {tb : Nat → Nat} {V M V2 B : Ob} {z lim N : Nat} {g nn : Nat → Nat}
theorem p_blines (l1 : Int32) (hQ : WQ g) (hq : QR V2 g) : ∀ (f1 f2 m : Nat) {B V M : Ob}, PS V M tb z lim → (∀ k, k < 22 → oJ M 10 k = lN (wcN k)) → oA M 6 = Nf g → NR V2 M g nn → BL B M g m → oI M 36 = nI m → 43 ≤ m + f1 → 42 ≤ m + f2 →
    (∃ m' B' V' M', m' ≤ 40 ∧ pX0_readFrom_l17 V2 f1 (nI 1) (nI m) B V = some (B', V') ∧ PS V' M' tb z lim ∧ oI M' 11 = nI 0 ∧ BL B' M' g m' ∧ BF M M' ∧ oI M' 36 = nI m' ∧ ∃ f3, pX11_book_l39 l1 f2 M = pX11_book_l39 l1 (f3 + 1) M') ∨
    (∃ B' V' M', pX0_readFrom_l17 V2 f1 (nI 1) (nI m) B V = some (B', V') ∧ BAD V' M' tb ∧ BF M M' ∧ pX11_book_l39 l1 f2 M = some (-nI 2 - oI M' 16, M'))
  | 0, f2, m, B, V, M, hP, hR, h6, hN, hB, h36, hf1, hf2 => by have := hB.1; omega
  | f1 + 1, 0, m, B, V, M, hP, hR, h6, hN, hB, h36, hf1, hf2 => by have := hB.1; omega
  | f1 + 1, f2 + 1, m, B, V, M, hP, hR, h6, hN, hB, h36, hf1, hf2 => by
    have hm := hB.1
    have stop := tk_stop hP
    have out : ∀ B' V', pX0_readFrom_l17 V2 f1 (nI 0) (nI (m + 1)) B' V' = some (B', V') := fun B' V' => by
      obtain ⟨f', rfl⟩ : ∃ f', f1 = f' + 1 := ⟨f1 - 1, by omega⟩
      rw [pX0_readFrom_l17]
      have l400 : (400 : Int32) = nI 400 := rfl
      simp (disch := omega) only [l_0, l_1, l_2, l_3, l_4, l_5, l_6, l_7, l_8, l_9, l_10, l_11, l_12, l_13, l_14, l_15, l_16, l_17, l_18, l_19, l_20, l_21, l_22, l_23, l_24, l_25, l_26, l_27, l_28, l_29, l_30, l_31, l_32, l_33, l_34, l_35, l_36, l_40, l_41, l_48, l_56, l_57, l_59, l_60, l_61, l_62, l_63, l_79, l_81, l_88, l_93, l_97, l_99, l_105, l_117, l_121, l_122, l_125, l_127, l_131, l_179, l_185, l_193, l_197, l_200, l_201, l_210, l_255, l_390, l_400, l_616, l_900, l_940, l_999, l_1000, l_1024, e_ltT, e_ltF, e_leT, e_leF, e_eqT, e_eqF, e_cl, e_in, e_gd, e_bd, e_ne, e_en, e_nlt, e_ltn, e_len, e_nle, e_nn, e_z0, e_z1, nI_add, pk_mul, e_sub, Nf_app, e_refl, e_reflN, reduceIte, ite_true_, ite_false_, l400]
    by_cases c : oI V 4 = nI 0
    · refine Or.inl ⟨m, B, V, M, hm, ?_, hP, by rw [stop]; exact c, hB, BF.refl M, h36, f2, rfl⟩
      rw [pX0_readFrom_l17]
      simp (disch := omega) only [l_0, l_1, l_2, l_3, l_4, l_5, l_6, l_7, l_8, l_9, l_10, l_11, l_12, l_13, l_14, l_15, l_16, l_17, l_18, l_19, l_20, l_21, l_22, l_23, l_24, l_25, l_26, l_27, l_28, l_29, l_30, l_31, l_32, l_33, l_34, l_35, l_36, l_40, l_41, l_48, l_56, l_57, l_59, l_60, l_61, l_62, l_63, l_79, l_81, l_88, l_93, l_97, l_99, l_105, l_117, l_121, l_122, l_125, l_127, l_131, l_179, l_185, l_193, l_197, l_200, l_201, l_210, l_255, l_390, l_400, l_616, l_900, l_940, l_999, l_1000, l_1024, e_ltT, e_ltF, e_leT, e_leF, e_eqT, e_eqF, e_cl, e_in, e_gd, e_bd, e_ne, e_en, e_nlt, e_ltn, e_len, e_nle, e_nn, e_z0, e_z1, nI_add, pk_mul, e_sub, Nf_app, e_refl, e_reflN, reduceIte, ite_true_, ite_false_, c]
    · have c2 : ¬ oI M 11 = nI 0 := by rw [stop]; exact c
      have c2' : ¬ oI M 11 = (0 : Int32) := c2
      obtain ⟨r, B', V', M', x1, x2, x3⟩ := p_bline hP hR hQ hq h6 hN hB h36
      have rb : ∀ X, ((pX11_bookLine M).bind fun r42 => if r42.1 = 0 then some ((-2 : Int32) - (oI r42.2 16), r42.2) else (pX11_sign r42.2 (59 : Int32)).bind fun r45 => if r45.1 = 0 then some ((-2 : Int32) - (oI r45.2 16), r45.2) else (pX11_book_l39 l1 f2) (sI r45.2 36 ((oI r45.2 36) + (1 : Int32)))) = X → pX11_book_l39 l1 (f2 + 1) M = X := fun X hX => by
        rw [pX11_book_l39, if_neg c2']; exact hX
      rw [pX0_readFrom_l17]
      rcases x3 with ⟨rfl, m40, y1, y2, y3, y4⟩ | ⟨rfl, y1, y2⟩
      · rcases p_sign y1 (c := 59) (by omega) with ⟨V3, M3, s1, s2, s3, s4⟩ | ⟨V3, M3, s1, s2, s3, s4⟩
        · have e36 : oI M3 36 = nI m := (s4.1 36 (by omega) (by omega) (by omega) (by omega) (by omega) (by omega) (by omega) (by omega)).trans y3
          have bf : BF M (sI M3 36 (nI (m + 1))) := (y2.trans s4.bf).trans ⟨fun k _ _ _ _ _ _ _ _ hk => by rw [oI_sI, if_neg hk], fun _ _ => rfl, fun _ => rfl⟩
          have hB3 : BL B' (sI M3 36 (nI (m + 1))) g (m + 1) := ⟨y4.1, y4.2.1, fun i hi => by
            have := y4.2.2 i hi
            have e8 : oA (sI M3 36 (nI (m + 1))) 8 = oA M' 8 := s4.2.1 8
            rw [e8]; exact this⟩
          have ih := p_blines l1 hQ hq f1 f2 (m + 1) (s3.set 36 (nI (m + 1)) (by omega)) (fun k hk => by rw [bf.2.2]; exact hR k hk) ((bf.2.1 6 (by omega)).trans h6) (hN.gf bf.2.2) hB3 (by rw [oI_sI, if_pos rfl]) (by omega) (by omega)
          rcases ih with ⟨m', B3, V4, M4, z0, z1, z2, z3, z4, z5, z6, f3, z7⟩ | ⟨B3, V4, M4, z1, z2, z3, z4⟩
          · refine Or.inl ⟨m', B3, V4, M4, z0, ?_, z2, z3, z4, bf.trans z5, z6, f3, rb _ ?_⟩
            · simp (disch := omega) only [l_0, l_1, l_2, l_3, l_4, l_5, l_6, l_7, l_8, l_9, l_10, l_11, l_12, l_13, l_14, l_15, l_16, l_17, l_18, l_19, l_20, l_21, l_22, l_23, l_24, l_25, l_26, l_27, l_28, l_29, l_30, l_31, l_32, l_33, l_34, l_35, l_36, l_40, l_41, l_48, l_56, l_57, l_59, l_60, l_61, l_62, l_63, l_79, l_81, l_88, l_93, l_97, l_99, l_105, l_117, l_121, l_122, l_125, l_127, l_131, l_179, l_185, l_193, l_197, l_200, l_201, l_210, l_255, l_390, l_400, l_616, l_900, l_940, l_999, l_1000, l_1024, e_ltT, e_ltF, e_leT, e_leF, e_eqT, e_eqF, e_cl, e_in, e_gd, e_bd, e_ne, e_en, e_nlt, e_ltn, e_len, e_nle, e_nn, e_z0, e_z1, nI_add, pk_mul, e_sub, Nf_app, e_refl, e_reflN, reduceIte, ite_true_, ite_false_, if_neg c, x1, s1, z1]
            · simp (disch := omega) only [l_0, l_1, l_2, l_3, l_4, l_5, l_6, l_7, l_8, l_9, l_10, l_11, l_12, l_13, l_14, l_15, l_16, l_17, l_18, l_19, l_20, l_21, l_22, l_23, l_24, l_25, l_26, l_27, l_28, l_29, l_30, l_31, l_32, l_33, l_34, l_35, l_36, l_40, l_41, l_48, l_56, l_57, l_59, l_60, l_61, l_62, l_63, l_79, l_81, l_88, l_93, l_97, l_99, l_105, l_117, l_121, l_122, l_125, l_127, l_131, l_179, l_185, l_193, l_197, l_200, l_201, l_210, l_255, l_390, l_400, l_616, l_900, l_940, l_999, l_1000, l_1024, e_ltT, e_ltF, e_leT, e_leF, e_eqT, e_eqF, e_cl, e_in, e_gd, e_bd, e_ne, e_en, e_nlt, e_ltn, e_len, e_nle, e_nn, e_z0, e_z1, nI_add, pk_mul, e_sub, Nf_app, e_refl, e_reflN, reduceIte, ite_true_, ite_false_, x2, s2, e36]
              exact z7
          · refine Or.inr ⟨B3, V4, M4, ?_, z2, bf.trans z3, rb _ ?_⟩
            · simp (disch := omega) only [l_0, l_1, l_2, l_3, l_4, l_5, l_6, l_7, l_8, l_9, l_10, l_11, l_12, l_13, l_14, l_15, l_16, l_17, l_18, l_19, l_20, l_21, l_22, l_23, l_24, l_25, l_26, l_27, l_28, l_29, l_30, l_31, l_32, l_33, l_34, l_35, l_36, l_40, l_41, l_48, l_56, l_57, l_59, l_60, l_61, l_62, l_63, l_79, l_81, l_88, l_93, l_97, l_99, l_105, l_117, l_121, l_122, l_125, l_127, l_131, l_179, l_185, l_193, l_197, l_200, l_201, l_210, l_255, l_390, l_400, l_616, l_900, l_940, l_999, l_1000, l_1024, e_ltT, e_ltF, e_leT, e_leF, e_eqT, e_eqF, e_cl, e_in, e_gd, e_bd, e_ne, e_en, e_nlt, e_ltn, e_len, e_nle, e_nn, e_z0, e_z1, nI_add, pk_mul, e_sub, Nf_app, e_refl, e_reflN, reduceIte, ite_true_, ite_false_, if_neg c, x1, s1, z1]
            · simp (disch := omega) only [l_0, l_1, l_2, l_3, l_4, l_5, l_6, l_7, l_8, l_9, l_10, l_11, l_12, l_13, l_14, l_15, l_16, l_17, l_18, l_19, l_20, l_21, l_22, l_23, l_24, l_25, l_26, l_27, l_28, l_29, l_30, l_31, l_32, l_33, l_34, l_35, l_36, l_40, l_41, l_48, l_56, l_57, l_59, l_60, l_61, l_62, l_63, l_79, l_81, l_88, l_93, l_97, l_99, l_105, l_117, l_121, l_122, l_125, l_127, l_131, l_179, l_185, l_193, l_197, l_200, l_201, l_210, l_255, l_390, l_400, l_616, l_900, l_940, l_999, l_1000, l_1024, e_ltT, e_ltF, e_leT, e_leF, e_eqT, e_eqF, e_cl, e_in, e_gd, e_bd, e_ne, e_en, e_nlt, e_ltn, e_len, e_nle, e_nn, e_z0, e_z1, nI_add, pk_mul, e_sub, Nf_app, e_refl, e_reflN, reduceIte, ite_true_, ite_false_, x2, s2, e36]
              exact z4
        · refine Or.inr ⟨B', V3, M3, ?_, s3, y2.trans s4.bf, rb _ ?_⟩
          · simp (disch := omega) only [l_0, l_1, l_2, l_3, l_4, l_5, l_6, l_7, l_8, l_9, l_10, l_11, l_12, l_13, l_14, l_15, l_16, l_17, l_18, l_19, l_20, l_21, l_22, l_23, l_24, l_25, l_26, l_27, l_28, l_29, l_30, l_31, l_32, l_33, l_34, l_35, l_36, l_40, l_41, l_48, l_56, l_57, l_59, l_60, l_61, l_62, l_63, l_79, l_81, l_88, l_93, l_97, l_99, l_105, l_117, l_121, l_122, l_125, l_127, l_131, l_179, l_185, l_193, l_197, l_200, l_201, l_210, l_255, l_390, l_400, l_616, l_900, l_940, l_999, l_1000, l_1024, e_ltT, e_ltF, e_leT, e_leF, e_eqT, e_eqF, e_cl, e_in, e_gd, e_bd, e_ne, e_en, e_nlt, e_ltn, e_len, e_nle, e_nn, e_z0, e_z1, nI_add, pk_mul, e_sub, Nf_app, e_refl, e_reflN, reduceIte, ite_true_, ite_false_, if_neg c, x1, s1, out]
          · simp (disch := omega) only [l_0, l_1, l_2, l_3, l_4, l_5, l_6, l_7, l_8, l_9, l_10, l_11, l_12, l_13, l_14, l_15, l_16, l_17, l_18, l_19, l_20, l_21, l_22, l_23, l_24, l_25, l_26, l_27, l_28, l_29, l_30, l_31, l_32, l_33, l_34, l_35, l_36, l_40, l_41, l_48, l_56, l_57, l_59, l_60, l_61, l_62, l_63, l_79, l_81, l_88, l_93, l_97, l_99, l_105, l_117, l_121, l_122, l_125, l_127, l_131, l_179, l_185, l_193, l_197, l_200, l_201, l_210, l_255, l_390, l_400, l_616, l_900, l_940, l_999, l_1000, l_1024, e_ltT, e_ltF, e_leT, e_leF, e_eqT, e_eqF, e_cl, e_in, e_gd, e_bd, e_ne, e_en, e_nlt, e_ltn, e_len, e_nle, e_nn, e_z0, e_z1, nI_add, pk_mul, e_sub, Nf_app, e_refl, e_reflN, reduceIte, ite_true_, ite_false_, x2, s2]
      · refine Or.inr ⟨B', V', M', ?_, y1, y2, rb _ ?_⟩
        · simp (disch := omega) only [l_0, l_1, l_2, l_3, l_4, l_5, l_6, l_7, l_8, l_9, l_10, l_11, l_12, l_13, l_14, l_15, l_16, l_17, l_18, l_19, l_20, l_21, l_22, l_23, l_24, l_25, l_26, l_27, l_28, l_29, l_30, l_31, l_32, l_33, l_34, l_35, l_36, l_40, l_41, l_48, l_56, l_57, l_59, l_60, l_61, l_62, l_63, l_79, l_81, l_88, l_93, l_97, l_99, l_105, l_117, l_121, l_122, l_125, l_127, l_131, l_179, l_185, l_193, l_197, l_200, l_201, l_210, l_255, l_390, l_400, l_616, l_900, l_940, l_999, l_1000, l_1024, e_ltT, e_ltF, e_leT, e_leF, e_eqT, e_eqF, e_cl, e_in, e_gd, e_bd, e_ne, e_en, e_nlt, e_ltn, e_len, e_nle, e_nn, e_z0, e_z1, nI_add, pk_mul, e_sub, Nf_app, e_refl, e_reflN, reduceIte, ite_true_, ite_false_, if_neg c, x1, out]
        · simp (disch := omega) only [l_0, l_1, l_2, l_3, l_4, l_5, l_6, l_7, l_8, l_9, l_10, l_11, l_12, l_13, l_14, l_15, l_16, l_17, l_18, l_19, l_20, l_21, l_22, l_23, l_24, l_25, l_26, l_27, l_28, l_29, l_30, l_31, l_32, l_33, l_34, l_35, l_36, l_40, l_41, l_48, l_56, l_57, l_59, l_60, l_61, l_62, l_63, l_79, l_81, l_88, l_93, l_97, l_99, l_105, l_117, l_121, l_122, l_125, l_127, l_131, l_179, l_185, l_193, l_197, l_200, l_201, l_210, l_255, l_390, l_400, l_616, l_900, l_940, l_999, l_1000, l_1024, e_ltT, e_ltF, e_leT, e_leF, e_eqT, e_eqF, e_cl, e_in, e_gd, e_bd, e_ne, e_en, e_nlt, e_ltn, e_len, e_nle, e_nn, e_z0, e_z1, nI_add, pk_mul, e_sub, Nf_app, e_refl, e_reflN, reduceIte, ite_true_, ite_false_, x2]
theorem l400 : (400 : Int32) = nI 400 := rfl
/-- a line lived -/
theorem d_line {S : Ob} {i : Nat} (hQ : WQ g) (hW : WS N g) (hd : g 121 ≤ 400) (hq : QR V2 g) (hS : SR S g) (hM : oA M 6 = Nf g) (hi : i < 40) {r0 r1 r2 : Int32} (hl : BLn g (oX B 0 i) (oA B 1 i) (oA B 2 i) r0 r1 r2) :
    ∃ w g' S', w < 100 ∧ pX0_liveLine B V2 S (nI i) = some (nI w, S') ∧ pX11_does M r0 r1 r2 = some (nI w, sA M 6 (Nf g')) ∧ SR S' g' ∧ WS (N + 9) g' ∧ Sm g g' ∧ g' 121 ≤ 400 ∧ (w ≠ 0 → g' = g) := by
  have g0 := w_g0 hQ
  have g1 := w_g1 hQ
  have g3 := w_g3 hQ
  have hW9 : WS (N + 9) g := by
    obtain ⟨a0, a1, a2, a3, a4, a5⟩ := hW
    exact ⟨a0, a1, a2, a3, a4, fun b hb => by have := a5 b hb; omega⟩
  have up9 : ∀ {h : Nat → Nat}, WS N h → WS (N + 9) h := fun {h} H => by
    obtain ⟨a0, a1, a2, a3, a4, a5⟩ := H
    exact ⟨a0, a1, a2, a3, a4, fun b hb => by have := a5 b hb; omega⟩
  have self : sA M 6 (Nf g) = M := by rw [← hM, sA_self]
  rcases hl with ⟨a, x, n, x1, n1, n2, p, q, e0, e1, e2⟩ | ⟨a, x, x1, p, e0, e1⟩ | ⟨a, x, t, x1, t1, p, q, e0, e1, e2⟩ | ⟨a, x, t, x1, t1, p, q, e0, e1, e2⟩ | ⟨a, n, n1, n2, q, e0, e1⟩
  · -- a stroke
    have cw := c_why hQ hW hq hS (n := n) x1 (by omega)
    have rw_ := r_why hQ hW hM (n := n) x1 (by omega)
    have w4 := wy_le g x n
    by_cases c : wy g x n = 0
    · obtain ⟨k1, k2, k3, k4⟩ := wy_0 c
      obtain ⟨S', s1, s2, _⟩ := c_stroke hQ hW hq hS (n := n) x1 (by omega)
      have s3 := r_stroke hQ hW hM (q := x) (n := n) (by omega) (by omega)
      obtain ⟨s4, s5⟩ := ws_stroke hQ hW x1 k4
      rw [c] at cw rw_
      refine ⟨0, gW g x n, S', by omega, ?_, ?_, s2, up9 s4, s5, ?_, fun h => absurd rfl h⟩
      · unfold pX0_liveLine pX0_liveStroke
        simp (disch := omega) only [l_0, l_1, l_2, l_3, l_4, l_5, l_6, l_7, l_8, l_9, l_10, l_11, l_12, l_13, l_14, l_15, l_16, l_17, l_18, l_19, l_20, l_21, l_22, l_23, l_24, l_25, l_26, l_27, l_28, l_29, l_30, l_31, l_32, l_33, l_34, l_35, l_36, l_40, l_41, l_48, l_56, l_57, l_59, l_60, l_61, l_62, l_63, l_79, l_81, l_88, l_93, l_97, l_99, l_105, l_117, l_121, l_122, l_125, l_127, l_131, l_179, l_185, l_193, l_197, l_200, l_201, l_210, l_255, l_390, l_400, l_616, l_900, l_940, l_999, l_1000, l_1024, e_ltT, e_ltF, e_leT, e_leF, e_eqT, e_eqF, e_cl, e_in, e_gd, e_bd, e_ne, e_en, e_nlt, e_ltn, e_len, e_nle, e_nn, e_z0, e_z1, nI_add, pk_mul, e_sub, Nf_app, e_refl, e_reflN, reduceIte, ite_true_, ite_false_, a, wOk, decide_true, p, q, cw, s1]
        rfl
      · unfold pX11_does
        simp (disch := omega) only [l_0, l_1, l_2, l_3, l_4, l_5, l_6, l_7, l_8, l_9, l_10, l_11, l_12, l_13, l_14, l_15, l_16, l_17, l_18, l_19, l_20, l_21, l_22, l_23, l_24, l_25, l_26, l_27, l_28, l_29, l_30, l_31, l_32, l_33, l_34, l_35, l_36, l_40, l_41, l_48, l_56, l_57, l_59, l_60, l_61, l_62, l_63, l_79, l_81, l_88, l_93, l_97, l_99, l_105, l_117, l_121, l_122, l_125, l_127, l_131, l_179, l_185, l_193, l_197, l_200, l_201, l_210, l_255, l_390, l_400, l_616, l_900, l_940, l_999, l_1000, l_1024, e_ltT, e_ltF, e_leT, e_leF, e_eqT, e_eqF, e_cl, e_in, e_gd, e_bd, e_ne, e_en, e_nlt, e_ltn, e_len, e_nle, e_nn, e_z0, e_z1, nI_add, pk_mul, e_sub, Nf_app, e_refl, e_reflN, reduceIte, ite_true_, ite_false_, e0, e1, e2, rw_, s3, pX11_does_j186]
      · have : gW g x n 121 = g 121 := by
          have key : ∀ (i o : Nat) {h : Nat → Nat}, WQ h → WS N h → gL x n i o h 121 = h 121 := by
            intro i
            induction i with
            | zero => intro o h _ _; rfl
            | succ i ih =>
              intro o h hQ hW
              rw [gL]
              split
              · next c =>
                have h0 := w_g0 hQ
                have ht := gT_lt hW (q := x) (by omega) c.1
                have e := gD_sm (g := h) (i := gI h x) (q := x) (by omega) (by omega)
                rw [ih _ (WQ.of e hQ) (ws_draw hQ hW (by omega) c.1 (gI_le hW x).2)]
                exact (gD_at (by omega) (by omega)).1 121 (by omega)
              · rfl
          show gP _ _ _ 121 = _
          unfold gP
          rw [uv_ne (by omega), uv_ne (by omega)]
          exact key 8 0 hQ hW
        omega
    · refine ⟨wy g x n, g, S, by omega, ?_, ?_, hS, hW9, Sm.refl _, hd, fun _ => rfl⟩
      · unfold pX0_liveLine pX0_liveStroke
        simp (disch := omega) only [l_0, l_1, l_2, l_3, l_4, l_5, l_6, l_7, l_8, l_9, l_10, l_11, l_12, l_13, l_14, l_15, l_16, l_17, l_18, l_19, l_20, l_21, l_22, l_23, l_24, l_25, l_26, l_27, l_28, l_29, l_30, l_31, l_32, l_33, l_34, l_35, l_36, l_40, l_41, l_48, l_56, l_57, l_59, l_60, l_61, l_62, l_63, l_79, l_81, l_88, l_93, l_97, l_99, l_105, l_117, l_121, l_122, l_125, l_127, l_131, l_179, l_185, l_193, l_197, l_200, l_201, l_210, l_255, l_390, l_400, l_616, l_900, l_940, l_999, l_1000, l_1024, e_ltT, e_ltF, e_leT, e_leF, e_eqT, e_eqF, e_cl, e_in, e_gd, e_bd, e_ne, e_en, e_nlt, e_ltn, e_len, e_nle, e_nn, e_z0, e_z1, nI_add, pk_mul, e_sub, Nf_app, e_refl, e_reflN, reduceIte, ite_true_, ite_false_, a, wOk, decide_true, p, q, cw]
        rfl
      · unfold pX11_does
        simp (disch := omega) only [l_0, l_1, l_2, l_3, l_4, l_5, l_6, l_7, l_8, l_9, l_10, l_11, l_12, l_13, l_14, l_15, l_16, l_17, l_18, l_19, l_20, l_21, l_22, l_23, l_24, l_25, l_26, l_27, l_28, l_29, l_30, l_31, l_32, l_33, l_34, l_35, l_36, l_40, l_41, l_48, l_56, l_57, l_59, l_60, l_61, l_62, l_63, l_79, l_81, l_88, l_93, l_97, l_99, l_105, l_117, l_121, l_122, l_125, l_127, l_131, l_179, l_185, l_193, l_197, l_200, l_201, l_210, l_255, l_390, l_400, l_616, l_900, l_940, l_999, l_1000, l_1024, e_ltT, e_ltF, e_leT, e_leF, e_eqT, e_eqF, e_cl, e_in, e_gd, e_bd, e_ne, e_en, e_nlt, e_ltn, e_len, e_nle, e_nn, e_z0, e_z1, nI_add, pk_mul, e_sub, Nf_app, e_refl, e_reflN, reduceIte, ite_true_, ite_false_, e0, e1, e2, rw_, pX11_does_j186]
        rw [self, Nat.zero_add]
  · -- a cut
    have hx6 : x < 6 := by omega
    have hL := w_long hW hx6
    by_cases c : g (125 + x) = 0
    · refine ⟨11, g, S, by omega, ?_, ?_, hS, hW9, Sm.refl _, hd, fun _ => rfl⟩
      · unfold pX0_liveLine pX0_liveCut pX6_whyNoCut
        simp (disch := omega) only [l_0, l_1, l_2, l_3, l_4, l_5, l_6, l_7, l_8, l_9, l_10, l_11, l_12, l_13, l_14, l_15, l_16, l_17, l_18, l_19, l_20, l_21, l_22, l_23, l_24, l_25, l_26, l_27, l_28, l_29, l_30, l_31, l_32, l_33, l_34, l_35, l_36, l_40, l_41, l_48, l_56, l_57, l_59, l_60, l_61, l_62, l_63, l_79, l_81, l_88, l_93, l_97, l_99, l_105, l_117, l_121, l_122, l_125, l_127, l_131, l_179, l_185, l_193, l_197, l_200, l_201, l_210, l_255, l_390, l_400, l_616, l_900, l_940, l_999, l_1000, l_1024, e_ltT, e_ltF, e_leT, e_leF, e_eqT, e_eqF, e_cl, e_in, e_gd, e_bd, e_ne, e_en, e_nlt, e_ltn, e_len, e_nle, e_nn, e_z0, e_z1, nI_add, pk_mul, e_sub, Nf_app, e_refl, e_reflN, reduceIte, ite_true_, ite_false_, a, wOk, decide_true, p, s_1 hS]
        rfl
      · unfold pX11_does
        simp (disch := omega) only [l_0, l_1, l_2, l_3, l_4, l_5, l_6, l_7, l_8, l_9, l_10, l_11, l_12, l_13, l_14, l_15, l_16, l_17, l_18, l_19, l_20, l_21, l_22, l_23, l_24, l_25, l_26, l_27, l_28, l_29, l_30, l_31, l_32, l_33, l_34, l_35, l_36, l_40, l_41, l_48, l_56, l_57, l_59, l_60, l_61, l_62, l_63, l_79, l_81, l_88, l_93, l_97, l_99, l_105, l_117, l_121, l_122, l_125, l_127, l_131, l_179, l_185, l_193, l_197, l_200, l_201, l_210, l_255, l_390, l_400, l_616, l_900, l_940, l_999, l_1000, l_1024, e_ltT, e_ltF, e_leT, e_leF, e_eqT, e_eqF, e_cl, e_in, e_gd, e_bd, e_ne, e_en, e_nlt, e_ltn, e_len, e_nle, e_nn, e_z0, e_z1, nI_add, pk_mul, e_sub, Nf_app, e_refl, e_reflN, reduceIte, ite_true_, ite_false_, e0, e1, hM, pX11_does_j75, pX11_does_j186]
        rw [self]
    · obtain ⟨S', s1, s2, _⟩ := c_cut hQ hW hS (q := x) hx6 (by omega)
      have s3 := r_cut hQ hW hM (q := x) hx6 (by omega)
      have ht := gT_lt hW (q := x) hx6 (by omega)
      refine ⟨0, gK g x, S', by omega, ?_, ?_, s2, up9 (ws_cut hQ hW hx6 (by omega)), gK_sm hx6 (by omega), ?_, fun h => absurd rfl h⟩
      · unfold pX0_liveLine pX0_liveCut pX6_whyNoCut
        simp (disch := omega) only [l_0, l_1, l_2, l_3, l_4, l_5, l_6, l_7, l_8, l_9, l_10, l_11, l_12, l_13, l_14, l_15, l_16, l_17, l_18, l_19, l_20, l_21, l_22, l_23, l_24, l_25, l_26, l_27, l_28, l_29, l_30, l_31, l_32, l_33, l_34, l_35, l_36, l_40, l_41, l_48, l_56, l_57, l_59, l_60, l_61, l_62, l_63, l_79, l_81, l_88, l_93, l_97, l_99, l_105, l_117, l_121, l_122, l_125, l_127, l_131, l_179, l_185, l_193, l_197, l_200, l_201, l_210, l_255, l_390, l_400, l_616, l_900, l_940, l_999, l_1000, l_1024, e_ltT, e_ltF, e_leT, e_leF, e_eqT, e_eqF, e_cl, e_in, e_gd, e_bd, e_ne, e_en, e_nlt, e_ltn, e_len, e_nle, e_nn, e_z0, e_z1, nI_add, pk_mul, e_sub, Nf_app, e_refl, e_reflN, reduceIte, ite_true_, ite_false_, a, wOk, decide_true, p, s_1 hS, s1]
        rfl
      · unfold pX11_does
        simp (disch := omega) only [l_0, l_1, l_2, l_3, l_4, l_5, l_6, l_7, l_8, l_9, l_10, l_11, l_12, l_13, l_14, l_15, l_16, l_17, l_18, l_19, l_20, l_21, l_22, l_23, l_24, l_25, l_26, l_27, l_28, l_29, l_30, l_31, l_32, l_33, l_34, l_35, l_36, l_40, l_41, l_48, l_56, l_57, l_59, l_60, l_61, l_62, l_63, l_79, l_81, l_88, l_93, l_97, l_99, l_105, l_117, l_121, l_122, l_125, l_127, l_131, l_179, l_185, l_193, l_197, l_200, l_201, l_210, l_255, l_390, l_400, l_616, l_900, l_940, l_999, l_1000, l_1024, e_ltT, e_ltF, e_leT, e_leF, e_eqT, e_eqF, e_cl, e_in, e_gd, e_bd, e_ne, e_en, e_nlt, e_ltn, e_len, e_nle, e_nn, e_z0, e_z1, nI_add, pk_mul, e_sub, Nf_app, e_refl, e_reflN, reduceIte, ite_true_, ite_false_, e0, e1, hM, pX11_does_j75, s3, pX11_does_j186]
      · unfold gK
        rw [uv_ne (by omega), (gD_at hx6 (by omega)).1 121 (by omega)]; exact hd
  · -- a thing caught
    have hx6 : x < 6 := by omega
    have hL := w_long hW hx6
    have cn := c_nest hW hS hx6
    have rn_ := r_nest hW hM hx6
    by_cases c : g (125 + x) = 8
    · have hns : ns g x = true := decide_eq_true c
      rw [hns, b01_t] at cn rn_
      refine ⟨21, g, S, by omega, ?_, ?_, hS, hW9, Sm.refl _, hd, fun _ => rfl⟩
      · unfold pX0_liveLine pX0_liveCatch pX6_whyNoCatch
        simp (disch := omega) only [l_0, l_1, l_2, l_3, l_4, l_5, l_6, l_7, l_8, l_9, l_10, l_11, l_12, l_13, l_14, l_15, l_16, l_17, l_18, l_19, l_20, l_21, l_22, l_23, l_24, l_25, l_26, l_27, l_28, l_29, l_30, l_31, l_32, l_33, l_34, l_35, l_36, l_40, l_41, l_48, l_56, l_57, l_59, l_60, l_61, l_62, l_63, l_79, l_81, l_88, l_93, l_97, l_99, l_105, l_117, l_121, l_122, l_125, l_127, l_131, l_179, l_185, l_193, l_197, l_200, l_201, l_210, l_255, l_390, l_400, l_616, l_900, l_940, l_999, l_1000, l_1024, e_ltT, e_ltF, e_leT, e_leF, e_eqT, e_eqF, e_cl, e_in, e_gd, e_bd, e_ne, e_en, e_nlt, e_ltn, e_len, e_nle, e_nn, e_z0, e_z1, nI_add, pk_mul, e_sub, Nf_app, e_refl, e_reflN, reduceIte, ite_true_, ite_false_, a, wOk, decide_true, p, q, cn]
        rfl
      · unfold pX11_does
        simp (disch := omega) only [l_0, l_1, l_2, l_3, l_4, l_5, l_6, l_7, l_8, l_9, l_10, l_11, l_12, l_13, l_14, l_15, l_16, l_17, l_18, l_19, l_20, l_21, l_22, l_23, l_24, l_25, l_26, l_27, l_28, l_29, l_30, l_31, l_32, l_33, l_34, l_35, l_36, l_40, l_41, l_48, l_56, l_57, l_59, l_60, l_61, l_62, l_63, l_79, l_81, l_88, l_93, l_97, l_99, l_105, l_117, l_121, l_122, l_125, l_127, l_131, l_179, l_185, l_193, l_197, l_200, l_201, l_210, l_255, l_390, l_400, l_616, l_900, l_940, l_999, l_1000, l_1024, e_ltT, e_ltF, e_leT, e_leF, e_eqT, e_eqF, e_cl, e_in, e_gd, e_bd, e_ne, e_en, e_nlt, e_ltn, e_len, e_nle, e_nn, e_z0, e_z1, nI_add, pk_mul, e_sub, Nf_app, e_refl, e_reflN, reduceIte, ite_true_, ite_false_, e0, e1, e2, rn_, pX11_does_j103, pX11_does_j186]
        rw [self]
    · have hns : ns g x = false := decide_eq_false c
      rw [hns, b01_f] at cn rn_
      obtain ⟨S', s1, s2, _⟩ := c_catch hW hS (q := x) (t := t) hx6 (by omega)
      have s3 := r_catch hW hM (q := x) (t := t) hx6 (by omega)
      refine ⟨0, gC g x t, S', by omega, ?_, ?_, s2, up9 (ws_catch hQ hW hx6 t1 (by omega)), gC_sm hx6 (by omega), ?_, fun h => absurd rfl h⟩
      · unfold pX0_liveLine pX0_liveCatch pX6_whyNoCatch
        simp (disch := omega) only [l_0, l_1, l_2, l_3, l_4, l_5, l_6, l_7, l_8, l_9, l_10, l_11, l_12, l_13, l_14, l_15, l_16, l_17, l_18, l_19, l_20, l_21, l_22, l_23, l_24, l_25, l_26, l_27, l_28, l_29, l_30, l_31, l_32, l_33, l_34, l_35, l_36, l_40, l_41, l_48, l_56, l_57, l_59, l_60, l_61, l_62, l_63, l_79, l_81, l_88, l_93, l_97, l_99, l_105, l_117, l_121, l_122, l_125, l_127, l_131, l_179, l_185, l_193, l_197, l_200, l_201, l_210, l_255, l_390, l_400, l_616, l_900, l_940, l_999, l_1000, l_1024, e_ltT, e_ltF, e_leT, e_leF, e_eqT, e_eqF, e_cl, e_in, e_gd, e_bd, e_ne, e_en, e_nlt, e_ltn, e_len, e_nle, e_nn, e_z0, e_z1, nI_add, pk_mul, e_sub, Nf_app, e_refl, e_reflN, reduceIte, ite_true_, ite_false_, a, wOk, decide_true, p, q, cn, s1]
        rfl
      · unfold pX11_does
        simp (disch := omega) only [l_0, l_1, l_2, l_3, l_4, l_5, l_6, l_7, l_8, l_9, l_10, l_11, l_12, l_13, l_14, l_15, l_16, l_17, l_18, l_19, l_20, l_21, l_22, l_23, l_24, l_25, l_26, l_27, l_28, l_29, l_30, l_31, l_32, l_33, l_34, l_35, l_36, l_40, l_41, l_48, l_56, l_57, l_59, l_60, l_61, l_62, l_63, l_79, l_81, l_88, l_93, l_97, l_99, l_105, l_117, l_121, l_122, l_125, l_127, l_131, l_179, l_185, l_193, l_197, l_200, l_201, l_210, l_255, l_390, l_400, l_616, l_900, l_940, l_999, l_1000, l_1024, e_ltT, e_ltF, e_leT, e_leF, e_eqT, e_eqF, e_cl, e_in, e_gd, e_bd, e_ne, e_en, e_nlt, e_ltn, e_len, e_nle, e_nn, e_z0, e_z1, nI_add, pk_mul, e_sub, Nf_app, e_refl, e_reflN, reduceIte, ite_true_, ite_false_, e0, e1, e2, rn_, pX11_does_j103, s3, pX11_does_j186]
      · rw [gC_day hx6 (by omega)]; exact hd
  · -- a stuffing
    have hb10 : g (185 + t) ≤ 10 := Nat.le_trans (sm_ge (fun t => g (185 + t)) (i := t) (n := 8) (by omega)) hW.2.2.2.1
    by_cases c : g (185 + t) = 0
    · refine ⟨31, g, S, by omega, ?_, ?_, hS, hW9, Sm.refl _, hd, fun _ => rfl⟩
      · unfold pX0_liveLine pX0_liveStuffing pX6_whyNoStuffing
        simp (disch := omega) only [l_0, l_1, l_2, l_3, l_4, l_5, l_6, l_7, l_8, l_9, l_10, l_11, l_12, l_13, l_14, l_15, l_16, l_17, l_18, l_19, l_20, l_21, l_22, l_23, l_24, l_25, l_26, l_27, l_28, l_29, l_30, l_31, l_32, l_33, l_34, l_35, l_36, l_40, l_41, l_48, l_56, l_57, l_59, l_60, l_61, l_62, l_63, l_79, l_81, l_88, l_93, l_97, l_99, l_105, l_117, l_121, l_122, l_125, l_127, l_131, l_179, l_185, l_193, l_197, l_200, l_201, l_210, l_255, l_390, l_400, l_616, l_900, l_940, l_999, l_1000, l_1024, e_ltT, e_ltF, e_leT, e_leF, e_eqT, e_eqF, e_cl, e_in, e_gd, e_bd, e_ne, e_en, e_nlt, e_ltn, e_len, e_nle, e_nn, e_z0, e_z1, nI_add, pk_mul, e_sub, Nf_app, e_refl, e_reflN, reduceIte, ite_true_, ite_false_, a, wOk, decide_true, p, q, s_3 hS]
        rfl
      · unfold pX11_does
        simp (disch := omega) only [l_0, l_1, l_2, l_3, l_4, l_5, l_6, l_7, l_8, l_9, l_10, l_11, l_12, l_13, l_14, l_15, l_16, l_17, l_18, l_19, l_20, l_21, l_22, l_23, l_24, l_25, l_26, l_27, l_28, l_29, l_30, l_31, l_32, l_33, l_34, l_35, l_36, l_40, l_41, l_48, l_56, l_57, l_59, l_60, l_61, l_62, l_63, l_79, l_81, l_88, l_93, l_97, l_99, l_105, l_117, l_121, l_122, l_125, l_127, l_131, l_179, l_185, l_193, l_197, l_200, l_201, l_210, l_255, l_390, l_400, l_616, l_900, l_940, l_999, l_1000, l_1024, e_ltT, e_ltF, e_leT, e_leF, e_eqT, e_eqF, e_cl, e_in, e_gd, e_bd, e_ne, e_en, e_nlt, e_ltn, e_len, e_nle, e_nn, e_z0, e_z1, nI_add, pk_mul, e_sub, Nf_app, e_refl, e_reflN, reduceIte, ite_true_, ite_false_, e0, e1, e2, hM, pX11_does_j137, pX11_does_j186]
        rw [self]
    · obtain ⟨S', s1, s2, _⟩ := c_stuff hQ hW hq hS (b := x) (t := t) (by omega) t1 (by omega)
      have s3 := r_stuff hM (b := x) (t := t) (by omega) (by omega) (by omega)
      refine ⟨0, gS g x t, S', by omega, ?_, ?_, s2, ws_stuff hQ hW (by omega) t1 (by omega), gS_sm (by omega) (by omega), ?_, fun h => absurd rfl h⟩
      · unfold pX0_liveLine pX0_liveStuffing pX6_whyNoStuffing
        simp (disch := omega) only [l_0, l_1, l_2, l_3, l_4, l_5, l_6, l_7, l_8, l_9, l_10, l_11, l_12, l_13, l_14, l_15, l_16, l_17, l_18, l_19, l_20, l_21, l_22, l_23, l_24, l_25, l_26, l_27, l_28, l_29, l_30, l_31, l_32, l_33, l_34, l_35, l_36, l_40, l_41, l_48, l_56, l_57, l_59, l_60, l_61, l_62, l_63, l_79, l_81, l_88, l_93, l_97, l_99, l_105, l_117, l_121, l_122, l_125, l_127, l_131, l_179, l_185, l_193, l_197, l_200, l_201, l_210, l_255, l_390, l_400, l_616, l_900, l_940, l_999, l_1000, l_1024, e_ltT, e_ltF, e_leT, e_leF, e_eqT, e_eqF, e_cl, e_in, e_gd, e_bd, e_ne, e_en, e_nlt, e_ltn, e_len, e_nle, e_nn, e_z0, e_z1, nI_add, pk_mul, e_sub, Nf_app, e_refl, e_reflN, reduceIte, ite_true_, ite_false_, a, wOk, decide_true, p, q, s_3 hS, s1]
        rfl
      · unfold pX11_does
        simp (disch := omega) only [l_0, l_1, l_2, l_3, l_4, l_5, l_6, l_7, l_8, l_9, l_10, l_11, l_12, l_13, l_14, l_15, l_16, l_17, l_18, l_19, l_20, l_21, l_22, l_23, l_24, l_25, l_26, l_27, l_28, l_29, l_30, l_31, l_32, l_33, l_34, l_35, l_36, l_40, l_41, l_48, l_56, l_57, l_59, l_60, l_61, l_62, l_63, l_79, l_81, l_88, l_93, l_97, l_99, l_105, l_117, l_121, l_122, l_125, l_127, l_131, l_179, l_185, l_193, l_197, l_200, l_201, l_210, l_255, l_390, l_400, l_616, l_900, l_940, l_999, l_1000, l_1024, e_ltT, e_ltF, e_leT, e_leF, e_eqT, e_eqF, e_cl, e_in, e_gd, e_bd, e_ne, e_en, e_nlt, e_ltn, e_len, e_nle, e_nn, e_z0, e_z1, nI_add, pk_mul, e_sub, Nf_app, e_refl, e_reflN, reduceIte, ite_true_, ite_false_, e0, e1, e2, hM, pX11_does_j137, s3, pX11_does_j186]
      · rw [(gS_at (by omega) (by omega)).1 121 (by omega)]; exact hd
  · -- days
    have dl : pX6_daysLeft S = some (nI (400 - g 121)) := by
      unfold pX6_daysLeft
      simp (disch := omega) only [l_0, l_1, l_2, l_3, l_4, l_5, l_6, l_7, l_8, l_9, l_10, l_11, l_12, l_13, l_14, l_15, l_16, l_17, l_18, l_19, l_20, l_21, l_22, l_23, l_24, l_25, l_26, l_27, l_28, l_29, l_30, l_31, l_32, l_33, l_34, l_35, l_36, l_40, l_41, l_48, l_56, l_57, l_59, l_60, l_61, l_62, l_63, l_79, l_81, l_88, l_93, l_97, l_99, l_105, l_117, l_121, l_122, l_125, l_127, l_131, l_179, l_185, l_193, l_197, l_200, l_201, l_210, l_255, l_390, l_400, l_616, l_900, l_940, l_999, l_1000, l_1024, e_ltT, e_ltF, e_leT, e_leF, e_eqT, e_eqF, e_cl, e_in, e_gd, e_bd, e_ne, e_en, e_nlt, e_ltn, e_len, e_nle, e_nn, e_z0, e_z1, nI_add, pk_mul, e_sub, Nf_app, e_refl, e_reflN, reduceIte, ite_true_, ite_false_, s_8 hS]
    by_cases c : n ≤ 400 - g 121
    · obtain ⟨S', s1, s2, _⟩ := c_days (n := n) (by omega) hQ hW hq hS (by omega)
      have s3 := r_goesOn (n := n) (by omega) hQ hW hM hd
      rw [show min n (400 - g 121) = n by omega] at s3
      obtain ⟨s4, s5, s6⟩ := gN_ok n hQ hW
      refine ⟨0, gN n g, S', by omega, ?_, ?_, s2, up9 s4, s5, by omega, fun h => absurd rfl h⟩
      · unfold pX0_liveLine
        simp (disch := omega) only [l_0, l_1, l_2, l_3, l_4, l_5, l_6, l_7, l_8, l_9, l_10, l_11, l_12, l_13, l_14, l_15, l_16, l_17, l_18, l_19, l_20, l_21, l_22, l_23, l_24, l_25, l_26, l_27, l_28, l_29, l_30, l_31, l_32, l_33, l_34, l_35, l_36, l_40, l_41, l_48, l_56, l_57, l_59, l_60, l_61, l_62, l_63, l_79, l_81, l_88, l_93, l_97, l_99, l_105, l_117, l_121, l_122, l_125, l_127, l_131, l_179, l_185, l_193, l_197, l_200, l_201, l_210, l_255, l_390, l_400, l_616, l_900, l_940, l_999, l_1000, l_1024, e_ltT, e_ltF, e_leT, e_leF, e_eqT, e_eqF, e_cl, e_in, e_gd, e_bd, e_ne, e_en, e_nlt, e_ltn, e_len, e_nle, e_nn, e_z0, e_z1, nI_add, pk_mul, e_sub, Nf_app, e_refl, e_reflN, reduceIte, ite_true_, ite_false_, a, wOk, decide_true, q, dl, s1]
        rfl
      · unfold pX11_does
        simp (disch := omega) only [l_0, l_1, l_2, l_3, l_4, l_5, l_6, l_7, l_8, l_9, l_10, l_11, l_12, l_13, l_14, l_15, l_16, l_17, l_18, l_19, l_20, l_21, l_22, l_23, l_24, l_25, l_26, l_27, l_28, l_29, l_30, l_31, l_32, l_33, l_34, l_35, l_36, l_40, l_41, l_48, l_56, l_57, l_59, l_60, l_61, l_62, l_63, l_79, l_81, l_88, l_93, l_97, l_99, l_105, l_117, l_121, l_122, l_125, l_127, l_131, l_179, l_185, l_193, l_197, l_200, l_201, l_210, l_255, l_390, l_400, l_616, l_900, l_940, l_999, l_1000, l_1024, e_ltT, e_ltF, e_leT, e_leF, e_eqT, e_eqF, e_cl, e_in, e_gd, e_bd, e_ne, e_en, e_nlt, e_ltn, e_len, e_nle, e_nn, e_z0, e_z1, nI_add, pk_mul, e_sub, Nf_app, e_refl, e_reflN, reduceIte, ite_true_, ite_false_, e0, e1, hM, pX11_does_j173, s3, pX11_does_j186]
    · refine ⟨41, g, S, by omega, ?_, ?_, hS, hW9, Sm.refl _, hd, fun _ => rfl⟩
      · unfold pX0_liveLine
        simp (disch := omega) only [l_0, l_1, l_2, l_3, l_4, l_5, l_6, l_7, l_8, l_9, l_10, l_11, l_12, l_13, l_14, l_15, l_16, l_17, l_18, l_19, l_20, l_21, l_22, l_23, l_24, l_25, l_26, l_27, l_28, l_29, l_30, l_31, l_32, l_33, l_34, l_35, l_36, l_40, l_41, l_48, l_56, l_57, l_59, l_60, l_61, l_62, l_63, l_79, l_81, l_88, l_93, l_97, l_99, l_105, l_117, l_121, l_122, l_125, l_127, l_131, l_179, l_185, l_193, l_197, l_200, l_201, l_210, l_255, l_390, l_400, l_616, l_900, l_940, l_999, l_1000, l_1024, e_ltT, e_ltF, e_leT, e_leF, e_eqT, e_eqF, e_cl, e_in, e_gd, e_bd, e_ne, e_en, e_nlt, e_ltn, e_len, e_nle, e_nn, e_z0, e_z1, nI_add, pk_mul, e_sub, Nf_app, e_refl, e_reflN, reduceIte, ite_true_, ite_false_, a, wOk, decide_true, q, dl]
        rfl
      · unfold pX11_does
        simp (disch := omega) only [l_0, l_1, l_2, l_3, l_4, l_5, l_6, l_7, l_8, l_9, l_10, l_11, l_12, l_13, l_14, l_15, l_16, l_17, l_18, l_19, l_20, l_21, l_22, l_23, l_24, l_25, l_26, l_27, l_28, l_29, l_30, l_31, l_32, l_33, l_34, l_35, l_36, l_40, l_41, l_48, l_56, l_57, l_59, l_60, l_61, l_62, l_63, l_79, l_81, l_88, l_93, l_97, l_99, l_105, l_117, l_121, l_122, l_125, l_127, l_131, l_179, l_185, l_193, l_197, l_200, l_201, l_210, l_255, l_390, l_400, l_616, l_900, l_940, l_999, l_1000, l_1024, e_ltT, e_ltF, e_leT, e_leF, e_eqT, e_eqF, e_cl, e_in, e_gd, e_bd, e_ne, e_en, e_nlt, e_ltn, e_len, e_nle, e_nn, e_z0, e_z1, nI_add, pk_mul, e_sub, Nf_app, e_refl, e_reflN, reduceIte, ite_true_, ite_false_, e0, e1, hM, pX11_does_j173, pX11_does_j186]
        rw [self]
end
