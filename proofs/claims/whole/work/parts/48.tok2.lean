/-! a run in the reference -/
section
variable {tb : Nat → Nat} {V M : Ob} {z lim : Nat}
/-- whether all of a run are of its first one's sort -/
def sa (tb : Nat → Nat) (b : Bool) (p : Nat) : Nat → Bool
  | 0 => true
  | j + 1 => sa tb b p j && (sml (tb (p + j)) == b)
def RM (M S : Ob) (tb : Nat → Nat) (p j : Nat) : Prop := NF M S ∧ oI S 12 = oI M 12 ∧ oI S 4 = nI (p + j) ∧ oI S 13 = nI j ∧ (lc tb p j = j → j ≤ 7 → oL S 17 = lN (wd tb p j)) ∧ ((∀ i, i < j → dgt (tb (p + i)) = true) → j ≤ 3 → oI S 14 = nI (nb tb p j))
theorem r_small {c : Nat} (hc : c < 256) : pX11_isSmall (nI c) = some (nI (b01 (sml c))) := by
  unfold pX11_isSmall
  cases h : sml c with
  | true =>
    have := of_decide_eq_true h
    simp (disch := omega) only [l_0, l_1, l_2, l_3, l_4, l_5, l_6, l_7, l_8, l_9, l_10, l_11, l_12, l_13, l_14, l_15, l_16, l_17, l_18, l_19, l_20, l_21, l_22, l_23, l_24, l_25, l_26, l_27, l_28, l_29, l_30, l_31, l_32, l_33, l_34, l_35, l_36, l_40, l_41, l_48, l_56, l_57, l_59, l_60, l_61, l_62, l_63, l_79, l_81, l_88, l_93, l_97, l_99, l_105, l_117, l_121, l_122, l_125, l_127, l_131, l_179, l_185, l_193, l_197, l_200, l_201, l_210, l_255, l_390, l_400, l_616, l_900, l_940, l_999, l_1000, l_1024, e_ltT, e_ltF, e_leT, e_leF, e_eqT, e_eqF, e_cl, e_in, e_gd, e_bd, e_ne, e_en, e_nlt, e_ltn, e_len, e_nle, e_nn, e_z0, e_z1, nI_add, pk_mul, e_sub, Nf_app, e_refl, e_reflN, reduceIte, ite_true_, ite_false_, b01_t]
  | false =>
    have := of_decide_eq_false h
    by_cases c1 : c < 97
    · simp (disch := omega) only [l_0, l_1, l_2, l_3, l_4, l_5, l_6, l_7, l_8, l_9, l_10, l_11, l_12, l_13, l_14, l_15, l_16, l_17, l_18, l_19, l_20, l_21, l_22, l_23, l_24, l_25, l_26, l_27, l_28, l_29, l_30, l_31, l_32, l_33, l_34, l_35, l_36, l_40, l_41, l_48, l_56, l_57, l_59, l_60, l_61, l_62, l_63, l_79, l_81, l_88, l_93, l_97, l_99, l_105, l_117, l_121, l_122, l_125, l_127, l_131, l_179, l_185, l_193, l_197, l_200, l_201, l_210, l_255, l_390, l_400, l_616, l_900, l_940, l_999, l_1000, l_1024, e_ltT, e_ltF, e_leT, e_leF, e_eqT, e_eqF, e_cl, e_in, e_gd, e_bd, e_ne, e_en, e_nlt, e_ltn, e_len, e_nle, e_nn, e_z0, e_z1, nI_add, pk_mul, e_sub, Nf_app, e_refl, e_reflN, reduceIte, ite_true_, ite_false_, b01_f]
    · simp (disch := omega) only [l_0, l_1, l_2, l_3, l_4, l_5, l_6, l_7, l_8, l_9, l_10, l_11, l_12, l_13, l_14, l_15, l_16, l_17, l_18, l_19, l_20, l_21, l_22, l_23, l_24, l_25, l_26, l_27, l_28, l_29, l_30, l_31, l_32, l_33, l_34, l_35, l_36, l_40, l_41, l_48, l_56, l_57, l_59, l_60, l_61, l_62, l_63, l_79, l_81, l_88, l_93, l_97, l_99, l_105, l_117, l_121, l_122, l_125, l_127, l_131, l_179, l_185, l_193, l_197, l_200, l_201, l_210, l_255, l_390, l_400, l_616, l_900, l_940, l_999, l_1000, l_1024, e_ltT, e_ltF, e_leT, e_leF, e_eqT, e_eqF, e_cl, e_in, e_gd, e_bd, e_ne, e_en, e_nlt, e_ltn, e_len, e_nle, e_nn, e_z0, e_z1, nI_add, pk_mul, e_sub, Nf_app, e_refl, e_reflN, reduceIte, ite_true_, ite_false_, b01_f]
theorem r_digit {c : Nat} (hc : c < 256) : pX11_isDigit (nI c) = some (nI (b01 (dgt c))) := by
  unfold pX11_isDigit
  cases h : dgt c with
  | true =>
    have := of_decide_eq_true h
    simp (disch := omega) only [l_0, l_1, l_2, l_3, l_4, l_5, l_6, l_7, l_8, l_9, l_10, l_11, l_12, l_13, l_14, l_15, l_16, l_17, l_18, l_19, l_20, l_21, l_22, l_23, l_24, l_25, l_26, l_27, l_28, l_29, l_30, l_31, l_32, l_33, l_34, l_35, l_36, l_40, l_41, l_48, l_56, l_57, l_59, l_60, l_61, l_62, l_63, l_79, l_81, l_88, l_93, l_97, l_99, l_105, l_117, l_121, l_122, l_125, l_127, l_131, l_179, l_185, l_193, l_197, l_200, l_201, l_210, l_255, l_390, l_400, l_616, l_900, l_940, l_999, l_1000, l_1024, e_ltT, e_ltF, e_leT, e_leF, e_eqT, e_eqF, e_cl, e_in, e_gd, e_bd, e_ne, e_en, e_nlt, e_ltn, e_len, e_nle, e_nn, e_z0, e_z1, nI_add, pk_mul, e_sub, Nf_app, e_refl, e_reflN, reduceIte, ite_true_, ite_false_, b01_t]
  | false =>
    have := of_decide_eq_false h
    by_cases c1 : c < 48
    · simp (disch := omega) only [l_0, l_1, l_2, l_3, l_4, l_5, l_6, l_7, l_8, l_9, l_10, l_11, l_12, l_13, l_14, l_15, l_16, l_17, l_18, l_19, l_20, l_21, l_22, l_23, l_24, l_25, l_26, l_27, l_28, l_29, l_30, l_31, l_32, l_33, l_34, l_35, l_36, l_40, l_41, l_48, l_56, l_57, l_59, l_60, l_61, l_62, l_63, l_79, l_81, l_88, l_93, l_97, l_99, l_105, l_117, l_121, l_122, l_125, l_127, l_131, l_179, l_185, l_193, l_197, l_200, l_201, l_210, l_255, l_390, l_400, l_616, l_900, l_940, l_999, l_1000, l_1024, e_ltT, e_ltF, e_leT, e_leF, e_eqT, e_eqF, e_cl, e_in, e_gd, e_bd, e_ne, e_en, e_nlt, e_ltn, e_len, e_nle, e_nn, e_z0, e_z1, nI_add, pk_mul, e_sub, Nf_app, e_refl, e_reflN, reduceIte, ite_true_, ite_false_, b01_f]
    · simp (disch := omega) only [l_0, l_1, l_2, l_3, l_4, l_5, l_6, l_7, l_8, l_9, l_10, l_11, l_12, l_13, l_14, l_15, l_16, l_17, l_18, l_19, l_20, l_21, l_22, l_23, l_24, l_25, l_26, l_27, l_28, l_29, l_30, l_31, l_32, l_33, l_34, l_35, l_36, l_40, l_41, l_48, l_56, l_57, l_59, l_60, l_61, l_62, l_63, l_79, l_81, l_88, l_93, l_97, l_99, l_105, l_117, l_121, l_122, l_125, l_127, l_131, l_179, l_185, l_193, l_197, l_200, l_201, l_210, l_255, l_390, l_400, l_616, l_900, l_940, l_999, l_1000, l_1024, e_ltT, e_ltF, e_leT, e_leF, e_eqT, e_eqF, e_cl, e_in, e_gd, e_bd, e_ne, e_en, e_nlt, e_ltn, e_len, e_nle, e_nn, e_z0, e_z1, nI_add, pk_mul, e_sub, Nf_app, e_refl, e_reflN, reduceIte, ite_true_, ite_false_, b01_f]
theorem r_smallN : pX11_isSmall (-nI 1) = some (nI 0) := by decide
theorem r_digitN : pX11_isDigit (-nI 1) = some (nI 0) := by decide
theorem r_peekS (hb : ∀ i, oA M 1 i &&& nI 255 = nI (tb i)) (hz : oI M 3 = nI z) (hz9 : z ≤ 940) {S : Ob} (h : NF M S) {p : Nat} (hp : oI S 4 = nI p) (hp2 : p < 2000) : pX11_peek S = some (if p < z then nI (tb p) else -nI 1) :=
  r_peek (fun i => by rw [h.2.1]; exact hb i) ((h.1 3 (by omega) (by omega) (by omega) (by omega) (by omega)).trans hz) hz9 hp hp2
theorem r_run2 (hb : ∀ i, oA M 1 i &&& nI 255 = nI (tb i)) (hb2 : ∀ i, tb i < 256) (hz : oI M 3 = nI z) (hz9 : z ≤ 940) {p : Nat} {b : Bool} : ∀ (f i j : Nat) {S : Ob}, p + j + i = z → i < f → RM M S tb p j → okS (pX11_next_l181 (nI (b01 b)) f (nI (b01 (sa tb b p j))) S) (fun r => r.1 = nI (b01 (sa tb b p (j + rn tb i (p + j)))) ∧ RM M r.2 tb p (j + rn tb i (p + j)))
  | 0, _, _, _, _, h, _ => by omega
  | f + 1, i, j, S, h1, h2, hR => by
    obtain ⟨r1, r2, r3, r4, r5, r6⟩ := hR
    have pk := r_peekS hb hz hz9 r1 r3 (by omega)
    have bb := hb2 (p + j)
    rw [pX11_next_l181]
    cases i with
    | zero =>
      rw [if_neg (by omega)] at pk
      simp (disch := omega) only [l_0, l_1, l_2, l_3, l_4, l_5, l_6, l_7, l_8, l_9, l_10, l_11, l_12, l_13, l_14, l_15, l_16, l_17, l_18, l_19, l_20, l_21, l_22, l_23, l_24, l_25, l_26, l_27, l_28, l_29, l_30, l_31, l_32, l_33, l_34, l_35, l_36, l_40, l_41, l_48, l_56, l_57, l_59, l_60, l_61, l_62, l_63, l_79, l_81, l_88, l_93, l_97, l_99, l_105, l_117, l_121, l_122, l_125, l_127, l_131, l_179, l_185, l_193, l_197, l_200, l_201, l_210, l_255, l_390, l_400, l_616, l_900, l_940, l_999, l_1000, l_1024, e_ltT, e_ltF, e_leT, e_leF, e_eqT, e_eqF, e_cl, e_in, e_gd, e_bd, e_ne, e_en, e_nlt, e_ltn, e_len, e_nle, e_nn, e_z0, e_z1, nI_add, pk_mul, e_sub, Nf_app, e_refl, e_reflN, reduceIte, ite_true_, ite_false_, pk, r_smallN, r_digitN]
      exact okS_some ⟨rfl, r1, r2, r3, r4, r5, r6⟩
    | succ i =>
      rw [if_pos (by omega)] at pk
      have sm_ := r_small bb
      have dg_ := r_digit bb
      rw [rn]
      by_cases ha : aln (tb (p + j)) = true
      · rw [if_pos ha]
        -- the body behind the test
        have body : okS (pX11_next_j201 (pX11_next_l181 (nI (b01 b)) f) S (nI (b01 b)) (nI (b01 (sa tb b p j)))) (fun r => r.1 = nI (b01 (sa tb b p (j + (rn tb i (p + j + 1) + 1)))) ∧ RM M r.2 tb p (j + (rn tb i (p + j + 1) + 1))) := by
          have ih := fun (S' : Ob) (h : RM M S' tb p (j + 1)) => r_run2 (p := p) (b := b) hb hb2 hz hz9 f i (j + 1) (S := S') (by omega) (by omega) h
          rw [show p + (j + 1) = p + j + 1 by omega, show j + 1 + rn tb i (p + j + 1) = j + (rn tb i (p + j + 1) + 1) by omega] at ih
          have e1 : sa tb b p (j + 1) = (sa tb b p j && (sml (tb (p + j)) == b)) := rfl
          have hw := wd_lt hb2 p j
          -- what is written
          have wr_ : ∀ x : Int32, x = nI (b01 (sa tb b p (j + 1))) → okS (pX11_next_j221 (pX11_next_l181 (nI (b01 b)) f) S (nI (b01 b)) (nI (b01 (sa tb b p j))) x) (fun r => r.1 = nI (b01 (sa tb b p (j + (rn tb i (p + j + 1) + 1)))) ∧ RM M r.2 tb p (j + (rn tb i (p + j + 1) + 1))) := by
            intro x hx
            rw [hx]
            have hn7 : ∀ (S' : Ob), (S' = S ∧ 7 ≤ j ∨ S' = sL S 17 (((oL S 17) <<< ((nI 8).toInt64 &&& 63)) ||| (nI (tb (p + j))).toInt64) ∧ j < 7) → okS (pX11_next_j248 (pX11_next_l181 (nI (b01 b)) f) S' (nI (b01 b)) (nI (b01 (sa tb b p (j + 1))))) (fun r => r.1 = nI (b01 (sa tb b p (j + (rn tb i (p + j + 1) + 1)))) ∧ RM M r.2 tb p (j + (rn tb i (p + j + 1) + 1))) := by
              intro S' hS'
              have a1 : NF M S' := by rcases hS' with ⟨e, _⟩ | ⟨e, _⟩ <;> subst e <;> first | exact r1 | exact r1.l 17 _
              have a2 : oI S' 12 = oI M 12 := by rcases hS' with ⟨e, _⟩ | ⟨e, _⟩ <;> subst e <;> exact r2
              have a3 : oI S' 4 = nI (p + j) := by rcases hS' with ⟨e, _⟩ | ⟨e, _⟩ <;> subst e <;> exact r3
              have a4 : oI S' 13 = nI j := by rcases hS' with ⟨e, _⟩ | ⟨e, _⟩ <;> subst e <;> exact r4
              have a6 : oI S' 14 = oI S 14 := by rcases hS' with ⟨e, _⟩ | ⟨e, _⟩ <;> subst e <;> rfl
              have a5 : lc tb p (j + 1) = j + 1 → j + 1 ≤ 7 → oL S' 17 = lN (wd tb p (j + 1)) := fun q1 q2 => by
                have ll := lc_le tb p j
                have lb := b01_le (sml (tb (p + j)))
                rw [lc] at q1
                rcases hS' with ⟨_, e⟩ | ⟨e, _⟩
                · omega
                · have hj : 256 ^ j ≤ 256 ^ 6 := Nat.pow_le_pow_right (by decide) (by omega)
                  rw [e, oL_sL, if_pos rfl, r5 (by omega) (by omega), e_wd (by omega) bb, wd]
              have pk' := r_peekS hb hz hz9 a1 a3 (by omega)
              rw [if_pos (by omega)] at pk'
              have last : ∀ v : Int32, ((∀ i, i < j + 1 → dgt (tb (p + i)) = true) → j + 1 ≤ 3 → v = nI (nb tb p (j + 1))) → RM M (sI (sI (sI S' 14 v) 13 (nI (j + 1))) 4 (nI (p + j + 1))) tb p (j + 1) := fun v hv =>
                ⟨((a1.i 14 v (by omega)).i 13 _ (by omega)).i 4 _ (by omega), a2, by rw [oI_sI, if_pos rfl, Nat.add_assoc], by rw [oI_sI, if_neg (by omega), oI_sI, if_pos rfl], a5, fun q1 q2 => by rw [oI_sI, if_neg (by omega), oI_sI, if_neg (by omega), oI_sI, if_pos rfl]; exact hv q1 q2⟩
              unfold pX11_next_j248
              by_cases c3 : 3 ≤ j
              · have := ih _ (last (oI S' 14) (fun _ q2 => by omega))
                rw [sI_self] at this
                simp (disch := omega) only [l_0, l_1, l_2, l_3, l_4, l_5, l_6, l_7, l_8, l_9, l_10, l_11, l_12, l_13, l_14, l_15, l_16, l_17, l_18, l_19, l_20, l_21, l_22, l_23, l_24, l_25, l_26, l_27, l_28, l_29, l_30, l_31, l_32, l_33, l_34, l_35, l_36, l_40, l_41, l_48, l_56, l_57, l_59, l_60, l_61, l_62, l_63, l_79, l_81, l_88, l_93, l_97, l_99, l_105, l_117, l_121, l_122, l_125, l_127, l_131, l_179, l_185, l_193, l_197, l_200, l_201, l_210, l_255, l_390, l_400, l_616, l_900, l_940, l_999, l_1000, l_1024, e_ltT, e_ltF, e_leT, e_leF, e_eqT, e_eqF, e_cl, e_in, e_gd, e_bd, e_ne, e_en, e_nlt, e_ltn, e_len, e_nle, e_nn, e_z0, e_z1, nI_add, pk_mul, e_sub, Nf_app, e_refl, e_reflN, reduceIte, ite_true_, ite_false_, oI_sI, oI_sL, oI_sW, oI_sA, oI_sJ, oI_sX, oL_sI, oL_sL, oL_sW, oL_sA, oL_sJ, oL_sX, oW_sI, oW_sL, oW_sW, oW_sA, oW_sJ, oW_sX, oA_sI, oA_sL, oA_sW, oA_sA, oA_sJ, oA_sX, oJ_sI, oJ_sL, oJ_sW, oJ_sA, oJ_sJ, oJ_sX, oX_sI, oX_sL, oX_sW, oX_sA, oX_sJ, oX_sX, Nat.reduceEqDiff, n10, n01, a4, pX11_next_j275, a3]
                exact this
              · have := ih _ (last ((nI 10) * (oI S' 14) + nI (tb (p + j)) - nI 48) (fun q1 q2 => by
                  have q3 := r6 (fun i hi => q1 i (by omega)) (by omega)
                  have hd := of_decide_eq_true (q1 j (by omega))
                  rw [a6, q3, pk_mul, nI_add, e_sub (by omega), nb, Nat.mul_comm]))
                simp (disch := omega) only [l_0, l_1, l_2, l_3, l_4, l_5, l_6, l_7, l_8, l_9, l_10, l_11, l_12, l_13, l_14, l_15, l_16, l_17, l_18, l_19, l_20, l_21, l_22, l_23, l_24, l_25, l_26, l_27, l_28, l_29, l_30, l_31, l_32, l_33, l_34, l_35, l_36, l_40, l_41, l_48, l_56, l_57, l_59, l_60, l_61, l_62, l_63, l_79, l_81, l_88, l_93, l_97, l_99, l_105, l_117, l_121, l_122, l_125, l_127, l_131, l_179, l_185, l_193, l_197, l_200, l_201, l_210, l_255, l_390, l_400, l_616, l_900, l_940, l_999, l_1000, l_1024, e_ltT, e_ltF, e_leT, e_leF, e_eqT, e_eqF, e_cl, e_in, e_gd, e_bd, e_ne, e_en, e_nlt, e_ltn, e_len, e_nle, e_nn, e_z0, e_z1, nI_add, pk_mul, e_sub, Nf_app, e_refl, e_reflN, reduceIte, ite_true_, ite_false_, oI_sI, oI_sL, oI_sW, oI_sA, oI_sJ, oI_sX, oL_sI, oL_sL, oL_sW, oL_sA, oL_sJ, oL_sX, oW_sI, oW_sL, oW_sW, oW_sA, oW_sJ, oW_sX, oA_sI, oA_sL, oA_sW, oA_sA, oA_sJ, oA_sX, oJ_sI, oJ_sL, oJ_sW, oJ_sA, oJ_sJ, oJ_sX, oX_sI, oX_sL, oX_sW, oX_sA, oX_sJ, oX_sX, Nat.reduceEqDiff, n10, n01, a4, pk', pX11_next_j275, a3]
                exact this
            unfold pX11_next_j221
            by_cases c7 : 7 ≤ j
            · simp (disch := omega) only [l_0, l_1, l_2, l_3, l_4, l_5, l_6, l_7, l_8, l_9, l_10, l_11, l_12, l_13, l_14, l_15, l_16, l_17, l_18, l_19, l_20, l_21, l_22, l_23, l_24, l_25, l_26, l_27, l_28, l_29, l_30, l_31, l_32, l_33, l_34, l_35, l_36, l_40, l_41, l_48, l_56, l_57, l_59, l_60, l_61, l_62, l_63, l_79, l_81, l_88, l_93, l_97, l_99, l_105, l_117, l_121, l_122, l_125, l_127, l_131, l_179, l_185, l_193, l_197, l_200, l_201, l_210, l_255, l_390, l_400, l_616, l_900, l_940, l_999, l_1000, l_1024, e_ltT, e_ltF, e_leT, e_leF, e_eqT, e_eqF, e_cl, e_in, e_gd, e_bd, e_ne, e_en, e_nlt, e_ltn, e_len, e_nle, e_nn, e_z0, e_z1, nI_add, pk_mul, e_sub, Nf_app, e_refl, e_reflN, reduceIte, ite_true_, ite_false_, r4]
              exact hn7 S (Or.inl ⟨rfl, c7⟩)
            · simp (disch := omega) only [l_0, l_1, l_2, l_3, l_4, l_5, l_6, l_7, l_8, l_9, l_10, l_11, l_12, l_13, l_14, l_15, l_16, l_17, l_18, l_19, l_20, l_21, l_22, l_23, l_24, l_25, l_26, l_27, l_28, l_29, l_30, l_31, l_32, l_33, l_34, l_35, l_36, l_40, l_41, l_48, l_56, l_57, l_59, l_60, l_61, l_62, l_63, l_79, l_81, l_88, l_93, l_97, l_99, l_105, l_117, l_121, l_122, l_125, l_127, l_131, l_179, l_185, l_193, l_197, l_200, l_201, l_210, l_255, l_390, l_400, l_616, l_900, l_940, l_999, l_1000, l_1024, e_ltT, e_ltF, e_leT, e_leF, e_eqT, e_eqF, e_cl, e_in, e_gd, e_bd, e_ne, e_en, e_nlt, e_ltn, e_len, e_nle, e_nn, e_z0, e_z1, nI_add, pk_mul, e_sub, Nf_app, e_refl, e_reflN, reduceIte, ite_true_, ite_false_, r4, pk]
              exact hn7 _ (Or.inr ⟨rfl, by omega⟩)
          unfold pX11_next_j201
          cases cs : sa tb b p j with
          | false =>
            rw [cs] at wr_
            simp (disch := omega) only [l_0, l_1, l_2, l_3, l_4, l_5, l_6, l_7, l_8, l_9, l_10, l_11, l_12, l_13, l_14, l_15, l_16, l_17, l_18, l_19, l_20, l_21, l_22, l_23, l_24, l_25, l_26, l_27, l_28, l_29, l_30, l_31, l_32, l_33, l_34, l_35, l_36, l_40, l_41, l_48, l_56, l_57, l_59, l_60, l_61, l_62, l_63, l_79, l_81, l_88, l_93, l_97, l_99, l_105, l_117, l_121, l_122, l_125, l_127, l_131, l_179, l_185, l_193, l_197, l_200, l_201, l_210, l_255, l_390, l_400, l_616, l_900, l_940, l_999, l_1000, l_1024, e_ltT, e_ltF, e_leT, e_leF, e_eqT, e_eqF, e_cl, e_in, e_gd, e_bd, e_ne, e_en, e_nlt, e_ltn, e_len, e_nle, e_nn, e_z0, e_z1, nI_add, pk_mul, e_sub, Nf_app, e_refl, e_reflN, reduceIte, ite_true_, ite_false_, b01_f, pX11_next_j220]
            exact wr_ (nI 0) (by rw [e1, cs]; rfl)
          | true =>
            rw [cs] at wr_
            by_cases cq : sml (tb (p + j)) = b
            · have e2 : nI (b01 (sml (tb (p + j)))) = nI (b01 b) := by rw [cq]
              simp (disch := omega) only [b01_t, l_0, l_1, e_eqF, reduceIte, pk, e_bd, sm_, e2, e_refl]
              rw [b01_t] at wr_
              exact wr_ (nI 1) (by rw [e1, cs, cq]; simp [b01_t])
            · have e2 : (nI (b01 (sml (tb (p + j)))) = nI (b01 b)) = False := eq_false (by
                cases b <;> cases h : sml (tb (p + j)) <;> rw [h] at cq <;> first | exact absurd rfl cq | decide)
              simp (disch := omega) only [b01_t, l_0, l_1, e_eqF, reduceIte, pk, e_bd, sm_, e2, pX11_next_j220]
              rw [b01_t] at wr_
              exact wr_ (nI 0) (by rw [e1, cs, beq_eq_false_iff_ne.mpr cq]; rfl)
        cases cs : sml (tb (p + j)) with
        | true =>
          rw [cs, b01_t] at sm_
          simp (disch := omega) only [l_0, l_1, l_2, l_3, l_4, l_5, l_6, l_7, l_8, l_9, l_10, l_11, l_12, l_13, l_14, l_15, l_16, l_17, l_18, l_19, l_20, l_21, l_22, l_23, l_24, l_25, l_26, l_27, l_28, l_29, l_30, l_31, l_32, l_33, l_34, l_35, l_36, l_40, l_41, l_48, l_56, l_57, l_59, l_60, l_61, l_62, l_63, l_79, l_81, l_88, l_93, l_97, l_99, l_105, l_117, l_121, l_122, l_125, l_127, l_131, l_179, l_185, l_193, l_197, l_200, l_201, l_210, l_255, l_390, l_400, l_616, l_900, l_940, l_999, l_1000, l_1024, e_ltT, e_ltF, e_leT, e_leF, e_eqT, e_eqF, e_cl, e_in, e_gd, e_bd, e_ne, e_en, e_nlt, e_ltn, e_len, e_nle, e_nn, e_z0, e_z1, nI_add, pk_mul, e_sub, Nf_app, e_refl, e_reflN, reduceIte, ite_true_, ite_false_, pk, sm_]
          exact body
        | false =>
          have cd : dgt (tb (p + j)) = true := by unfold aln at ha; rw [cs] at ha; exact ha
          rw [cs, b01_f] at sm_
          rw [cd, b01_t] at dg_
          simp (disch := omega) only [l_0, l_1, l_2, l_3, l_4, l_5, l_6, l_7, l_8, l_9, l_10, l_11, l_12, l_13, l_14, l_15, l_16, l_17, l_18, l_19, l_20, l_21, l_22, l_23, l_24, l_25, l_26, l_27, l_28, l_29, l_30, l_31, l_32, l_33, l_34, l_35, l_36, l_40, l_41, l_48, l_56, l_57, l_59, l_60, l_61, l_62, l_63, l_79, l_81, l_88, l_93, l_97, l_99, l_105, l_117, l_121, l_122, l_125, l_127, l_131, l_179, l_185, l_193, l_197, l_200, l_201, l_210, l_255, l_390, l_400, l_616, l_900, l_940, l_999, l_1000, l_1024, e_ltT, e_ltF, e_leT, e_leF, e_eqT, e_eqF, e_cl, e_in, e_gd, e_bd, e_ne, e_en, e_nlt, e_ltn, e_len, e_nle, e_nn, e_z0, e_z1, nI_add, pk_mul, e_sub, Nf_app, e_refl, e_reflN, reduceIte, ite_true_, ite_false_, pk, sm_, dg_]
          exact body
      · rw [if_neg ha]
        have cs : sml (tb (p + j)) = false := by
          cases h : sml (tb (p + j)) with
          | false => rfl
          | true => unfold aln at ha; rw [h] at ha; exact absurd rfl ha
        have cd : dgt (tb (p + j)) = false := by
          cases h : dgt (tb (p + j)) with
          | false => rfl
          | true => unfold aln at ha; rw [h, Bool.or_true] at ha; exact absurd rfl ha
        rw [cs, b01_f] at sm_
        rw [cd, b01_f] at dg_
        simp (disch := omega) only [l_0, l_1, l_2, l_3, l_4, l_5, l_6, l_7, l_8, l_9, l_10, l_11, l_12, l_13, l_14, l_15, l_16, l_17, l_18, l_19, l_20, l_21, l_22, l_23, l_24, l_25, l_26, l_27, l_28, l_29, l_30, l_31, l_32, l_33, l_34, l_35, l_36, l_40, l_41, l_48, l_56, l_57, l_59, l_60, l_61, l_62, l_63, l_79, l_81, l_88, l_93, l_97, l_99, l_105, l_117, l_121, l_122, l_125, l_127, l_131, l_179, l_185, l_193, l_197, l_200, l_201, l_210, l_255, l_390, l_400, l_616, l_900, l_940, l_999, l_1000, l_1024, e_ltT, e_ltF, e_leT, e_leF, e_eqT, e_eqF, e_cl, e_in, e_gd, e_bd, e_ne, e_en, e_nlt, e_ltn, e_len, e_nle, e_nn, e_z0, e_z1, nI_add, pk_mul, e_sub, Nf_app, e_refl, e_reflN, reduceIte, ite_true_, ite_false_, pk, sm_, dg_]
        exact okS_some ⟨rfl, r1, r2, r3, r4, r5, r6⟩
theorem rn_aln (tb : Nat → Nat) : ∀ i p k, k < rn tb i p → aln (tb (p + k)) = true
  | 0, _, k, h => by rw [rn] at h; omega
  | i + 1, p, k, h => by
    rw [rn] at h
    split at h
    · next e =>
      cases k with
      | zero => exact e
      | succ k =>
        have := rn_aln tb i (p + 1) k (by omega)
        rw [show p + (k + 1) = p + 1 + k by omega]; exact this
    · omega
theorem sa_t {p : Nat} : ∀ j, sa tb true p j = true ↔ lc tb p j = j
  | 0 => ⟨fun _ => rfl, fun _ => rfl⟩
  | j + 1 => by
    have ih := sa_t (p := p) j
    have ll := lc_le tb p j
    rw [sa, lc]
    cases c : sml (tb (p + j)) with
    | true =>
      rw [b01_t]
      constructor
      · intro h; rw [Bool.and_eq_true] at h; have := ih.mp h.1; omega
      · intro h; rw [ih.mpr (by omega)]; rfl
    | false =>
      rw [b01_f]
      constructor
      · intro h; rw [Bool.and_eq_true] at h; exact absurd h.2 (by decide)
      · intro h; omega
theorem sa_f {p : Nat} : ∀ j, sa tb false p j = true ↔ lc tb p j = 0
  | 0 => ⟨fun _ => rfl, fun _ => rfl⟩
  | j + 1 => by
    have ih := sa_f (p := p) j
    rw [sa, lc]
    cases c : sml (tb (p + j)) with
    | true =>
      rw [b01_t]
      constructor
      · intro h; rw [Bool.and_eq_true] at h; exact absurd h.2 (by decide)
      · intro h; omega
    | false =>
      rw [b01_f]
      constructor
      · intro h; rw [Bool.and_eq_true] at h; have := ih.mp h.1; omega
      · intro h; rw [ih.mpr (by omega)]; rfl
theorem lc_0 {p : Nat} : ∀ {j : Nat}, lc tb p j = 0 → ∀ i, i < j → sml (tb (p + i)) = false
  | 0, _, i, h => by omega
  | j + 1, h, i, hi => by
    rw [lc] at h
    by_cases c : i = j
    · subst c
      cases c : sml (tb (p + i)) with
      | false => rfl
      | true => rw [c, b01_t] at h; omega
    · exact lc_0 (j := j) (by omega) i (by omega)
theorem lc_pos {p : Nat} (h0 : sml (tb p) = true) : ∀ {j : Nat}, 0 < j → 0 < lc tb p j
  | 0, h => by omega
  | 1, _ => by rw [lc, lc]; rw [show p + 0 = p from rfl, h0, b01_t]; omega
  | j + 2, _ => by rw [lc]; have := lc_pos (p := p) h0 (j := j + 1) (by omega); omega
theorem lc_all {p : Nat} (h0 : sml (tb p) = false) : ∀ {j : Nat}, 0 < j → lc tb p j < j
  | 0, h => by omega
  | 1, _ => by rw [lc, lc]; rw [show p + 0 = p from rfl, h0, b01_f]; omega
  | j + 2, _ => by
    rw [lc]
    have := lc_all (p := p) h0 (j := j + 1) (by omega)
    have := b01_le (sml (tb (p + (j + 1))))
    omega
end
/-! the token at hand, in both -/
def TKv (V M : Ob) : Prop :=
  (oI V 4 = nI 0 ∧ oI M 11 = nI 0 ∧ oW V 8 = none) ∨ (oI V 4 = nI 1 ∧ oI M 11 = nI 4 ∧ oW V 8 = none) ∨
  (∃ p, p ≤ 940 ∧ oI V 3 = nI p ∧ oI M 4 = nI p ∧ oI V 1 = oI M 3 ∧ (∀ z, z ≤ 940 → oI M 3 = nI z → p ≤ z) ∧
    ((∃ w, oI V 4 = nI 2 ∧ oI M 11 = nI 1 ∧ oL V 7 = lN w ∧ oL M 17 = lN w ∧ wok w ∧ oW V 8 = wfind w) ∨
     (∃ v, v ≤ 999 ∧ oI V 4 = nI 3 ∧ oI M 11 = nI 2 ∧ oI V 6 = nI v ∧ oI M 14 = nI v ∧ oW V 8 = none) ∨
     (∃ c, (c = 40 ∨ c = 41 ∨ c = 59 ∨ c = 60 ∨ c = 61 ∨ c = 62) ∧ oI V 4 = nI c ∧ oI M 11 = nI 3 ∧ oI M 14 = nI c ∧ oW V 8 = none)))
/-- the tapes: length, limit, bytes -/
def TP (V M : Ob) (tb : Nat → Nat) (z lim : Nat) : Prop := TB V M tb ∧ z ≤ 940 ∧ lim ≤ 940 ∧ oI V 1 = nI z ∧ oI M 3 = nI z ∧ oI V 2 = nI lim ∧ oI M 5 = nI lim
def TK (V M : Ob) (tb : Nat → Nat) (z lim : Nat) : Prop := TP V M tb z lim ∧ (∃ pl, pl ≤ 940 ∧ oI V 5 = nI pl ∧ oI M 12 = nI pl) ∧ TKv V M
theorem TP.of {V W M M' : Ob} {tb : Nat → Nat} {z lim : Nat} (h : TP V M tb z lim) (a : FC V W) (b : NF M M') : TP W M' tb z lim := by
  obtain ⟨h1, h2, h3, h4, h5, h6, h7⟩ := h
  exact ⟨h1.of a b, h2, h3, (a.1 1 (by omega) (by omega) (by omega) (by omega)).trans h4, (b.1 3 (by omega) (by omega) (by omega) (by omega) (by omega)).trans h5, (a.1 2 (by omega) (by omega) (by omega) (by omega)).trans h6, (b.1 5 (by omega) (by omega) (by omega) (by omega) (by omega)).trans h7⟩
