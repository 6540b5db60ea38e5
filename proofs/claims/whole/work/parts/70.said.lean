/-! what a sentence says of a person: the reference; who is said -/
/-- the reference's codes in its row -/
def CG (g : Nat → Nat) (f : Nat → Cd) (s : Nat) : Prop := g 209 = s ∧ ∀ i, i < s → g (210 + 3 * i) = (f i).1 ∧ g (210 + 3 * i + 1) = (f i).2.1 ∧ g (210 + 3 * i + 2) = (f i).2.2
/-- truths in a row, the last one first -/
def TR (a : Nat → Int32) : List Bool → Prop
  | [] => True
  | b :: r => a r.length = nI (b01 b) ∧ TR a r
theorem TR_up {a : Nat → Int32} {k : Nat} {v : Int32} : ∀ {st : List Bool}, TR a st → st.length ≤ k → TR (va_up a k v) st
  | [], _, _ => trivial
  | b :: r, h, hk => by
    have hk' : r.length + 1 ≤ k := hk
    exact ⟨by rw [uv_ne (by omega)]; exact h.1, TR_up h.2 (by omega)⟩
section
variable {N q s : Nat} {g : Nat → Nat} {V V2 S M : Ob} {f : Nat → Cd}
theorem r_true_l (hQ : WQ g) (hW : WS N g) (hM : oA M 6 = Nf g) (hq : q < g 1) (hC : CG g f s) (hs : s ≤ 40) (hv : ∀ i, i < s → VF g (f i)) (st' : List Bool) : ∀ (n k i : Nat) (st : List Bool) (a : Nat → Int32), i + k = s → k < n → st.length + lcn f s ≤ 20 + lcn f i → TR a st → evl (fun j => ltr g q (f j)) f k i st = some st' → ∃ a', pX11_isSaid_l4 (nI q) n (nI st.length) (nI i) (sA M 45 a) = some (sA M 45 a') ∧ TR a' st'
  | 0, k, i, st, a, _, h, _, _, _ => by omega
  | n + 1, 0, i, st, a, h1, h2, h3, ht, h4 => by
    have e : st = st' := Option.some.inj h4
    subst e
    have e6 : oA (sA M 45 a) 6 = Nf g := hM
    refine ⟨a, ?_, ht⟩
    rw [pX11_isSaid_l4]
    simp (disch := omega) only [l_0, l_1, l_2, l_3, l_4, l_5, l_6, l_7, l_8, l_9, l_10, l_11, l_12, l_13, l_14, l_15, l_16, l_17, l_18, l_19, l_20, l_21, l_22, l_23, l_24, l_25, l_26, l_27, l_28, l_29, l_30, l_31, l_32, l_33, l_34, l_35, l_36, l_40, l_41, l_48, l_56, l_57, l_59, l_60, l_61, l_62, l_63, l_79, l_81, l_88, l_93, l_97, l_99, l_105, l_117, l_121, l_122, l_125, l_127, l_131, l_179, l_185, l_193, l_197, l_200, l_201, l_210, l_255, l_390, l_400, l_616, l_900, l_940, l_999, l_1000, l_1024, e_ltT, e_ltF, e_leT, e_leF, e_eqT, e_eqF, e_cl, e_in, e_gd, e_bd, e_ne, e_en, e_nlt, e_ltn, e_len, e_nle, e_nn, e_z0, e_z1, nI_add, pk_mul, e_sub, Nf_app, e_refl, e_reflN, reduceIte, ite_true_, ite_false_, e6, hC.1]
  | n + 1, k + 1, i, st, a, h1, h2, h3, ht, h4 => by
    have hi : i < s := by omega
    obtain ⟨w0, w1, w2⟩ := hC.2 i hi
    have h209 := hC.1
    have vf := hv i hi
    have e6 : oA (sA M 45 a) 6 = Nf g := hM
    have e45 : oA (sA M 45 a) 45 = a := oA_self _ _ _
    have mono : ∀ a b, lcn f a ≤ lcn f (a + b) := fun a b => by
      induction b with
      | zero => exact Nat.le_refl _
      | succ b ih => rw [← Nat.add_assoc, lcn]; omega
    have m1 := mono (i + 1) k
    rw [show i + 1 + k = s by omega] at m1
    have l1 : lcn f (i + 1) = lcn f i + (if (f i).1 ≤ 8 then 1 else 0) := rfl
    have ih := r_true_l hQ hW hM hq hC hs hv st' n k (i + 1)
    rw [evl] at h4
    by_cases c20 : (f i).1 = 20
    · rw [c20, if_neg (by omega)] at l1
      rw [c20] at w0
      cases st with
      | nil => rw [ev_20n c20] at h4; cases h4
      | cons b r =>
        rw [ev_20 c20] at h4
        have h3' : r.length + 1 + lcn f s ≤ 20 + lcn f i := h3
        obtain ⟨a', y1, y2⟩ := ih ((!b) :: r) (va_up a r.length (nI (b01 (!b)))) (by omega) (by omega) (by show r.length + 1 + lcn f s ≤ _; omega) ⟨uv_eq rfl, TR_up ht.2 (Nat.le_refl _)⟩ h4
        refine ⟨a', ?_, y2⟩
        have y1 : pX11_isSaid_l4 (nI q) n (nI (r.length + 1)) (nI (i + 1)) (sA M 45 (va_up a r.length (nI (b01 (!b))))) = some (sA M 45 a') := y1
        have t0 := ht.1
        rw [pX11_isSaid_l4, show (b :: r).length = r.length + 1 from rfl]
        cases b with
        | true =>
          rw [b01_t] at t0
          rw [show b01 (!true) = 0 from rfl] at y1
          simp (disch := omega) only [l_0, l_1, l_2, l_3, l_4, l_5, l_6, l_7, l_8, l_9, l_10, l_11, l_12, l_13, l_14, l_15, l_16, l_17, l_18, l_19, l_20, l_21, l_22, l_23, l_24, l_25, l_26, l_27, l_28, l_29, l_30, l_31, l_32, l_33, l_34, l_35, l_36, l_40, l_41, l_48, l_56, l_57, l_59, l_60, l_61, l_62, l_63, l_79, l_81, l_88, l_93, l_97, l_99, l_105, l_117, l_121, l_122, l_125, l_127, l_131, l_179, l_185, l_193, l_197, l_200, l_201, l_210, l_255, l_390, l_400, l_616, l_900, l_940, l_999, l_1000, l_1024, e_ltT, e_ltF, e_leT, e_leF, e_eqT, e_eqF, e_cl, e_in, e_gd, e_bd, e_ne, e_en, e_nlt, e_ltn, e_len, e_nle, e_nn, e_z0, e_z1, nI_add, pk_mul, e_sub, Nf_app, e_refl, e_reflN, reduceIte, ite_true_, ite_false_, e6, e45, sA_sA, h209, w0, Nat.add_sub_cancel, t0]
          exact y1
        | false =>
          rw [b01_f] at t0
          rw [show b01 (!false) = 1 from rfl] at y1
          simp (disch := omega) only [l_0, l_1, l_2, l_3, l_4, l_5, l_6, l_7, l_8, l_9, l_10, l_11, l_12, l_13, l_14, l_15, l_16, l_17, l_18, l_19, l_20, l_21, l_22, l_23, l_24, l_25, l_26, l_27, l_28, l_29, l_30, l_31, l_32, l_33, l_34, l_35, l_36, l_40, l_41, l_48, l_56, l_57, l_59, l_60, l_61, l_62, l_63, l_79, l_81, l_88, l_93, l_97, l_99, l_105, l_117, l_121, l_122, l_125, l_127, l_131, l_179, l_185, l_193, l_197, l_200, l_201, l_210, l_255, l_390, l_400, l_616, l_900, l_940, l_999, l_1000, l_1024, e_ltT, e_ltF, e_leT, e_leF, e_eqT, e_eqF, e_cl, e_in, e_gd, e_bd, e_ne, e_en, e_nlt, e_ltn, e_len, e_nle, e_nn, e_z0, e_z1, nI_add, pk_mul, e_sub, Nf_app, e_refl, e_reflN, reduceIte, ite_true_, ite_false_, e6, e45, sA_sA, h209, w0, Nat.add_sub_cancel, t0]
          exact y1
    · by_cases c21 : (f i).1 = 21
      · rw [c21, if_neg (by omega)] at l1
        rw [c21] at w0
        cases st with
        | nil => rw [ev_21n c21] at h4; cases h4
        | cons b r0 =>
          cases r0 with
          | nil => rw [ev_21m c21] at h4; cases h4
          | cons c r =>
            rw [ev_21 c21] at h4
            have h3' : r.length + 1 + 1 + lcn f s ≤ 20 + lcn f i := h3
            obtain ⟨a', y1, y2⟩ := ih ((c && b) :: r) (va_up a r.length (nI (b01 (c && b)))) (by omega) (by omega) (by show r.length + 1 + lcn f s ≤ _; omega) ⟨uv_eq rfl, TR_up ht.2.2 (Nat.le_refl _)⟩ h4
            refine ⟨a', ?_, y2⟩
            have y1 : pX11_isSaid_l4 (nI q) n (nI (r.length + 1)) (nI (i + 1)) (sA M 45 (va_up a r.length (nI (b01 (c && b))))) = some (sA M 45 a') := y1
            have t0 : a (r.length + 1) = nI (b01 b) := ht.1
            have t1 := ht.2.1
            rw [pX11_isSaid_l4, show (b :: c :: r).length = r.length + 1 + 1 from rfl]
            unfold pX11_isSaid_j88 pX11_isSaid_j134
            cases c with
            | false =>
              rw [b01_f] at t1
              rw [show b01 (false && b) = 0 from rfl] at y1
              simp (disch := omega) only [l_0, l_1, l_2, l_3, l_4, l_5, l_6, l_7, l_8, l_9, l_10, l_11, l_12, l_13, l_14, l_15, l_16, l_17, l_18, l_19, l_20, l_21, l_22, l_23, l_24, l_25, l_26, l_27, l_28, l_29, l_30, l_31, l_32, l_33, l_34, l_35, l_36, l_40, l_41, l_48, l_56, l_57, l_59, l_60, l_61, l_62, l_63, l_79, l_81, l_88, l_93, l_97, l_99, l_105, l_117, l_121, l_122, l_125, l_127, l_131, l_179, l_185, l_193, l_197, l_200, l_201, l_210, l_255, l_390, l_400, l_616, l_900, l_940, l_999, l_1000, l_1024, e_ltT, e_ltF, e_leT, e_leF, e_eqT, e_eqF, e_cl, e_in, e_gd, e_bd, e_ne, e_en, e_nlt, e_ltn, e_len, e_nle, e_nn, e_z0, e_z1, nI_add, pk_mul, e_sub, Nf_app, e_refl, e_reflN, reduceIte, ite_true_, ite_false_, e6, e45, sA_sA, h209, w0, Nat.add_sub_cancel, t0, t1, e_addn]
              exact y1
            | true =>
              rw [b01_t] at t1
              cases b with
              | false =>
                rw [b01_f] at t0
                rw [show b01 (true && false) = 0 from rfl] at y1
                simp (disch := omega) only [l_0, l_1, l_2, l_3, l_4, l_5, l_6, l_7, l_8, l_9, l_10, l_11, l_12, l_13, l_14, l_15, l_16, l_17, l_18, l_19, l_20, l_21, l_22, l_23, l_24, l_25, l_26, l_27, l_28, l_29, l_30, l_31, l_32, l_33, l_34, l_35, l_36, l_40, l_41, l_48, l_56, l_57, l_59, l_60, l_61, l_62, l_63, l_79, l_81, l_88, l_93, l_97, l_99, l_105, l_117, l_121, l_122, l_125, l_127, l_131, l_179, l_185, l_193, l_197, l_200, l_201, l_210, l_255, l_390, l_400, l_616, l_900, l_940, l_999, l_1000, l_1024, e_ltT, e_ltF, e_leT, e_leF, e_eqT, e_eqF, e_cl, e_in, e_gd, e_bd, e_ne, e_en, e_nlt, e_ltn, e_len, e_nle, e_nn, e_z0, e_z1, nI_add, pk_mul, e_sub, Nf_app, e_refl, e_reflN, reduceIte, ite_true_, ite_false_, e6, e45, sA_sA, h209, w0, Nat.add_sub_cancel, t0, t1, e_addn]
                exact y1
              | true =>
                rw [b01_t] at t0
                rw [show b01 (true && true) = 1 from rfl] at y1
                simp (disch := omega) only [l_0, l_1, l_2, l_3, l_4, l_5, l_6, l_7, l_8, l_9, l_10, l_11, l_12, l_13, l_14, l_15, l_16, l_17, l_18, l_19, l_20, l_21, l_22, l_23, l_24, l_25, l_26, l_27, l_28, l_29, l_30, l_31, l_32, l_33, l_34, l_35, l_36, l_40, l_41, l_48, l_56, l_57, l_59, l_60, l_61, l_62, l_63, l_79, l_81, l_88, l_93, l_97, l_99, l_105, l_117, l_121, l_122, l_125, l_127, l_131, l_179, l_185, l_193, l_197, l_200, l_201, l_210, l_255, l_390, l_400, l_616, l_900, l_940, l_999, l_1000, l_1024, e_ltT, e_ltF, e_leT, e_leF, e_eqT, e_eqF, e_cl, e_in, e_gd, e_bd, e_ne, e_en, e_nlt, e_ltn, e_len, e_nle, e_nn, e_z0, e_z1, nI_add, pk_mul, e_sub, Nf_app, e_refl, e_reflN, reduceIte, ite_true_, ite_false_, e6, e45, sA_sA, h209, w0, Nat.add_sub_cancel, t0, t1, e_addn]
                exact y1
      · by_cases c22 : (f i).1 = 22
        · rw [c22, if_neg (by omega)] at l1
          rw [c22] at w0
          cases st with
          | nil => rw [ev_22n c22] at h4; cases h4
          | cons b r0 =>
            cases r0 with
            | nil => rw [ev_22m c22] at h4; cases h4
            | cons c r =>
              rw [ev_22 c22] at h4
              have h3' : r.length + 1 + 1 + lcn f s ≤ 20 + lcn f i := h3
              obtain ⟨a', y1, y2⟩ := ih ((c || b) :: r) (va_up a r.length (nI (b01 (c || b)))) (by omega) (by omega) (by show r.length + 1 + lcn f s ≤ _; omega) ⟨uv_eq rfl, TR_up ht.2.2 (Nat.le_refl _)⟩ h4
              refine ⟨a', ?_, y2⟩
              have y1 : pX11_isSaid_l4 (nI q) n (nI (r.length + 1)) (nI (i + 1)) (sA M 45 (va_up a r.length (nI (b01 (c || b))))) = some (sA M 45 a') := y1
              have t0 : a (r.length + 1) = nI (b01 b) := ht.1
              have t1 := ht.2.1
              rw [pX11_isSaid_l4, show (b :: c :: r).length = r.length + 1 + 1 from rfl]
              unfold pX11_isSaid_j88 pX11_isSaid_j158
              cases c with
              | true =>
                rw [b01_t] at t1
                rw [show b01 (true || b) = 1 from rfl] at y1
                simp (disch := omega) only [l_0, l_1, l_2, l_3, l_4, l_5, l_6, l_7, l_8, l_9, l_10, l_11, l_12, l_13, l_14, l_15, l_16, l_17, l_18, l_19, l_20, l_21, l_22, l_23, l_24, l_25, l_26, l_27, l_28, l_29, l_30, l_31, l_32, l_33, l_34, l_35, l_36, l_40, l_41, l_48, l_56, l_57, l_59, l_60, l_61, l_62, l_63, l_79, l_81, l_88, l_93, l_97, l_99, l_105, l_117, l_121, l_122, l_125, l_127, l_131, l_179, l_185, l_193, l_197, l_200, l_201, l_210, l_255, l_390, l_400, l_616, l_900, l_940, l_999, l_1000, l_1024, e_ltT, e_ltF, e_leT, e_leF, e_eqT, e_eqF, e_cl, e_in, e_gd, e_bd, e_ne, e_en, e_nlt, e_ltn, e_len, e_nle, e_nn, e_z0, e_z1, nI_add, pk_mul, e_sub, Nf_app, e_refl, e_reflN, reduceIte, ite_true_, ite_false_, e6, e45, sA_sA, h209, w0, Nat.add_sub_cancel, t0, t1, e_addn]
                exact y1
              | false =>
                rw [b01_f] at t1
                cases b with
                | false =>
                  rw [b01_f] at t0
                  rw [show b01 (false || false) = 0 from rfl] at y1
                  simp (disch := omega) only [l_0, l_1, l_2, l_3, l_4, l_5, l_6, l_7, l_8, l_9, l_10, l_11, l_12, l_13, l_14, l_15, l_16, l_17, l_18, l_19, l_20, l_21, l_22, l_23, l_24, l_25, l_26, l_27, l_28, l_29, l_30, l_31, l_32, l_33, l_34, l_35, l_36, l_40, l_41, l_48, l_56, l_57, l_59, l_60, l_61, l_62, l_63, l_79, l_81, l_88, l_93, l_97, l_99, l_105, l_117, l_121, l_122, l_125, l_127, l_131, l_179, l_185, l_193, l_197, l_200, l_201, l_210, l_255, l_390, l_400, l_616, l_900, l_940, l_999, l_1000, l_1024, e_ltT, e_ltF, e_leT, e_leF, e_eqT, e_eqF, e_cl, e_in, e_gd, e_bd, e_ne, e_en, e_nlt, e_ltn, e_len, e_nle, e_nn, e_z0, e_z1, nI_add, pk_mul, e_sub, Nf_app, e_refl, e_reflN, reduceIte, ite_true_, ite_false_, e6, e45, sA_sA, h209, w0, Nat.add_sub_cancel, t0, t1, e_addn]
                  exact y1
                | true =>
                  rw [b01_t] at t0
                  rw [show b01 (false || true) = 1 from rfl] at y1
                  simp (disch := omega) only [l_0, l_1, l_2, l_3, l_4, l_5, l_6, l_7, l_8, l_9, l_10, l_11, l_12, l_13, l_14, l_15, l_16, l_17, l_18, l_19, l_20, l_21, l_22, l_23, l_24, l_25, l_26, l_27, l_28, l_29, l_30, l_31, l_32, l_33, l_34, l_35, l_36, l_40, l_41, l_48, l_56, l_57, l_59, l_60, l_61, l_62, l_63, l_79, l_81, l_88, l_93, l_97, l_99, l_105, l_117, l_121, l_122, l_125, l_127, l_131, l_179, l_185, l_193, l_197, l_200, l_201, l_210, l_255, l_390, l_400, l_616, l_900, l_940, l_999, l_1000, l_1024, e_ltT, e_ltF, e_leT, e_leF, e_eqT, e_eqF, e_cl, e_in, e_gd, e_bd, e_ne, e_en, e_nlt, e_ltn, e_len, e_nle, e_nn, e_z0, e_z1, nI_add, pk_mul, e_sub, Nf_app, e_refl, e_reflN, reduceIte, ite_true_, ite_false_, e6, e45, sA_sA, h209, w0, Nat.add_sub_cancel, t0, t1, e_addn]
                  exact y1
        · have c8 : (f i).1 ≤ 8 := by have := vf.1; omega
          rw [if_pos c8] at l1
          have e1 : ev1 (fun j => ltr g q (f j)) f i st = some (ltr g q (f i) :: st) := by unfold ev1; rw [if_neg c20, if_neg c21, if_neg c22]
          rw [e1] at h4
          have lf := r_leafT (c := (f i).1) (u := (f i).2.1) (v := (f i).2.2) hQ hW e6 hq vf c8
          have lt : ltr g q ((f i).1, (f i).2.1, (f i).2.2) = ltr g q (f i) := rfl
          rw [lt] at lf
          obtain ⟨a', y1, y2⟩ := ih (ltr g q (f i) :: st) (va_up a st.length (nI (b01 (ltr g q (f i))))) (by omega) (by omega) (by show st.length + 1 + lcn f s ≤ _; omega) ⟨uv_eq rfl, TR_up ht (Nat.le_refl _)⟩ h4
          refine ⟨a', ?_, y2⟩
          have y1 : pX11_isSaid_l4 (nI q) n (nI (st.length + 1)) (nI (i + 1)) (sA M 45 (va_up a st.length (nI (b01 (ltr g q (f i)))))) = some (sA M 45 a') := y1
          rw [pX11_isSaid_l4]
          simp (disch := omega) only [l_0, l_1, l_2, l_3, l_4, l_5, l_6, l_7, l_8, l_9, l_10, l_11, l_12, l_13, l_14, l_15, l_16, l_17, l_18, l_19, l_20, l_21, l_22, l_23, l_24, l_25, l_26, l_27, l_28, l_29, l_30, l_31, l_32, l_33, l_34, l_35, l_36, l_40, l_41, l_48, l_56, l_57, l_59, l_60, l_61, l_62, l_63, l_79, l_81, l_88, l_93, l_97, l_99, l_105, l_117, l_121, l_122, l_125, l_127, l_131, l_179, l_185, l_193, l_197, l_200, l_201, l_210, l_255, l_390, l_400, l_616, l_900, l_940, l_999, l_1000, l_1024, e_ltT, e_ltF, e_leT, e_leF, e_eqT, e_eqF, e_cl, e_in, e_gd, e_bd, e_ne, e_en, e_nlt, e_ltn, e_len, e_nle, e_nn, e_z0, e_z1, nI_add, pk_mul, e_sub, Nf_app, e_refl, e_reflN, reduceIte, ite_true_, ite_false_, e6, e45, sA_sA, h209, w0, w1, w2, lf, b01_z]
          exact y1
theorem p_tru (hQ : WQ g) (hW : WS N g) (hM : oA M 6 = Nf g) (hR : QR V2 g) (hS : SR V g) (hq : q < g 1) (hG : CG g f s) (hC : CS S f s) (hs : s ≤ 40) (hv : ∀ i, i < s → VF g (f i)) (hE : EV f 0 s) (hl : lcn f s ≤ 20) : ∃ b a', pX5_isTrueOf S V2 V (nI q) = some (nI (b01 b)) ∧ pX11_isSaid M (nI q) = some (nI (b01 b), sA M 45 a') := by
  obtain ⟨b, hb⟩ := hE.2 (fun j => ltr g q (f j)) []
  rw [Nat.sub_zero] at hb
  have c1 := c_true_l hQ hW hR hS hq hC hs hv [b] fu s 0 [] (by omega) (by rw [fu_eq]; omega) (by show 0 + lcn f s ≤ 20 + 0; omega) hb
  obtain ⟨a', r1, r2⟩ := r_true_l hQ hW hM hq hG hs hv [b] fu s 0 [] (oA M 45) (by omega) (by rw [fu_eq]; omega) (by show 0 + lcn f s ≤ 20 + 0; omega) trivial hb
  rw [sA_self] at r1
  have r2 : a' 0 = nI (b01 b) := r2.1
  refine ⟨b, a', ?_, ?_⟩
  · unfold pX5_isTrueOf
    have c1 : pX5_isTrueOf_l6 S V2 V (nI q) fu (0 : Int32) (0 : Int32) = some (nI (2 * 0 + b01 b)) := c1
    rw [c1, e_bd]
    cases b with
    | true => rw [if_pos (by decide)]; rfl
    | false => rw [if_neg (by decide)]; rfl
  · unfold pX11_isSaid
    have r1 : pX11_isSaid_l4 (nI q) fu (0 : Int32) (0 : Int32) M = some (sA M 45 a') := r1
    rw [r1, e_bd, oA_self, r2, b01_z, e_gd]
/-- who is said, from person p on -/
theorem p_said_l {V0 : Ob} (hQ : WQ g) (hW : WS N g) (hM : oA M 6 = Nf g) (hR : QR V2 g) (hS : SR V g) (hG : CG g f s) (hC : CS S f s) (hs : s ≤ 40) (hv : ∀ i, i < s → VF g (f i)) (hE : EV f 0 s) (hl : lcn f s ≤ 20) (x : Int32) : ∀ (n p j : Nat) (a : Nat → Int32), p ≤ g 1 → g 1 < p + n → j ≤ p → ∃ o a', pX10_said_l21 V0 S V2 V x n (nI j) (nI p) = some o ∧ pX11_said_l27 x n (nI j) (nI p) (sA M 45 a) = some (o, sA M 45 a')
  | 0, p, j, a, h1, h2, _ => by omega
  | n + 1, p, j, a, h1, h2, h3 => by
    have g1 := w_g1 hQ
    have e6 : oA (sA M 45 a) 6 = Nf g := hM
    rw [pX10_said_l21, pX11_said_l27]
    by_cases c : p = g 1
    · have ca : oI V2 4 ≤ nI p := by rw [hR.2.1, c]; exact nI_le (Nat.le_refl _) (by omega)
      have cb : oA (sA M 45 a) 6 1 ≤ nI p := by rw [e6, c]; exact nI_le (Nat.le_refl _) (by omega)
      rw [if_pos ca, if_pos cb]
      by_cases d : x = (-1 : Int32)
      · rw [if_pos d, if_pos d]; exact ⟨_, _, rfl, rfl⟩
      · rw [if_neg d, if_neg d]; exact ⟨_, _, rfl, rfl⟩
    · have hp : p < g 1 := by omega
      have ca : ¬ oI V2 4 ≤ nI p := by rw [hR.2.1]; exact nI_ge hp (by omega)
      have cb : ¬ oA (sA M 45 a) 6 1 ≤ nI p := by rw [e6]; exact nI_ge hp (by omega)
      obtain ⟨b, a1, y1, y2⟩ := p_tru (M := sA M 45 a) hQ hW e6 hR hS hp hG hC hs hv hE hl
      rw [sA_sA] at y2
      rw [if_neg ca, if_neg cb, y1, y2, e_bd, e_bd, l_1]
      cases b with
      | false =>
        obtain ⟨o, a', z1, z2⟩ := p_said_l (V0 := V0) hQ hW hM hR hS hG hC hs hv hE hl x n (p + 1) j a1 (by omega) (by omega) (by omega)
        refine ⟨o, a', ?_, ?_⟩
        · rw [if_pos (show nI (b01 false) = (0 : Int32) from rfl), nI_add]; exact z1
        · rw [if_pos (show nI (b01 false) = (0 : Int32) from rfl), nI_add]; exact z2
      | true =>
        have t : ¬ nI (b01 true) = 0 := by decide
        rw [if_neg t, if_neg t]
        by_cases d : nI j = x
        · rw [if_pos d, if_pos d]; exact ⟨_, _, rfl, rfl⟩
        · rw [if_neg d, if_neg d, nI_add, nI_add]
          exact p_said_l (V0 := V0) hQ hW hM hR hS hG hC hs hv hE hl x n (p + 1) (j + 1) a1 (by omega) (by omega) (by omega)
end
