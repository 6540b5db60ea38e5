/-! days by draws -/
theorem l_a : (1103515245 : Int32) = nI 1103515245 := rfl
theorem l_b : (12345 : Int32) = nI 12345 := rfl
theorem draw_ex : ∃ c : (Int32 → Int32) × (Int32 → Nat), (∀ x : Int32, x * (1103515245 : Int32) + (12345 : Int32) = c.1 x) ∧ (∀ x, ushr32 x (nI 8) = nI (c.2 x)) ∧ ∀ x, c.2 x < 16777216 := by
  refine ⟨(fun x => x * (1103515245 : Int32) + (12345 : Int32), fun x => x.toBitVec.toNat / 256), fun x => rfl, fun x => ?_, fun x => ?_⟩
  · obtain ⟨n, hn, rfl⟩ : ∃ n, n < 2 ^ 32 ∧ x = nI n := ⟨x.toBitVec.toNat, x.toBitVec.isLt, Int32.toBitVec_inj.mp (by show _ = BitVec.ofNat 32 _; simp)⟩
    unfold ushr32
    show _ = nI ((nI n).toBitVec.toNat / 256)
    rw [pk_ushrN hn (nI 8) 8 (by decide), pk_tn hn]
  · have := x.toBitVec.isLt
    show x.toBitVec.toNat / 256 < 16777216
    omega
noncomputable def cx : Int32 → Int32 := (Classical.choose draw_ex).1
noncomputable def sv : Int32 → Nat := (Classical.choose draw_ex).2
theorem cx_eq (x : Int32) : x * (1103515245 : Int32) + (12345 : Int32) = cx x := (Classical.choose_spec draw_ex).1 x
theorem e_ushr8 (x : Int32) : ushr32 x (nI 8) = nI (sv x) := (Classical.choose_spec draw_ex).2.1 x
theorem sv_lt (x : Int32) : sv x < 16777216 := (Classical.choose_spec draw_ex).2.2 x
theorem oI35 (M : Ob) (v : Int32) : oI (sI M 35 v) 35 = v := by rw [oI_sI, if_pos rfl]
theorem oA6I (M : Ob) (f : Nat → Int32) (v : Int32) : oA (sI (sA M 6 f) 35 v) 6 = f := by rw [oA_sI, oA_sA, if_pos rfl]
theorem oI12 (M : Ob) (v : Int32) : oI (sI M 12 v) 12 = v := by rw [oI_sI, if_pos rfl]
section
variable {N : Nat} {g : Nat → Nat} {M V V2 : Ob}
theorem r_chance {x : Int32} (hs : oI M 35 = x) {n : Nat} (h0 : 0 < n) (hn : n < 1000) : pX11_chance M (nI n) = some (nI (sv (cx x) % n), sI M 35 (cx x)) := by
  have := sv_lt (cx x)
  unfold pX11_chance
  simp (disch := omega) only [l_0, l_8, e_eqF, e_dnf, e_gd, oI35, hs, cx_eq, e_ushr8]
  rw [pk_rem (by omega) h0 (by omega)]
theorem c_draw {x : Int32} (hs : oI V 12 = x) {n : Nat} (h0 : 0 < n) (hn : n < 1000) : pX6_draw V (nI n) = some (nI (sv (cx x) % n), sI V 12 (cx x)) := by
  have := sv_lt (cx x)
  unfold pX6_draw
  simp (disch := omega) only [l_0, l_1, l_8, e_eqF, e_dnf, e_gd, oI12, reduceIte, hs, e_leT, cx_eq, e_ushr8]
  rw [pk_rem (by omega) h0 (by omega)]
theorem SR.seed (hS : SR V g) (x : Int32) : SR (sI V 12 x) g := hS
/-- what one person does by a draw -/
noncomputable def gAc (q : Nat) (g : Nat → Nat) (x : Int32) : (Nat → Nat) × Int32 :=
  if sv (cx x) % 6 < 2 then (if g 0 = 0 then (g, cx x) else (if g (125 + q) = 8 then g else gC g q (sv (cx (cx x)) % g 0), cx (cx x)))
  else if sv (cx x) % 6 = 2 then (if wy g q (sv (cx (cx x)) % 20 + 1) = 0 then gW g q (sv (cx (cx x)) % 20 + 1) else g, cx (cx x))
  else if sv (cx x) % 6 = 3 then (if g (125 + q) = 0 then g else gK g q, cx x) else (g, cx x)
theorem wy_0 {q n : Nat} (h : wy g q n = 0) : g (125 + q) ≠ 0 ∧ kh g q (g (125 + q)) ≤ n ∧ n ≤ g 4 ∧ g (179 + q) + n ≤ g (21 + q) := by
  unfold wy at h
  split at h
  · cases h
  · split at h
    · cases h
    · split at h
      · cases h
      · split at h
        · cases h
        · omega
theorem wy_le (g : Nat → Nat) (q n : Nat) : wy g q n ≤ 4 := by
  unfold wy
  split
  · omega
  · split
    · omega
    · split
      · omega
      · split <;> omega
theorem gAc_ok (hQ : WQ g) (hW : WS N g) {q : Nat} (hq : q < g 1) (x : Int32) : WS N (gAc q g x).1 ∧ Sm g (gAc q g x).1 ∧ (gAc q g x).1 121 = g 121 := by
  have g1 := w_g1 hQ
  have g0 := w_g0 hQ
  have hL := w_long hW (p := q) (by omega)
  unfold gAc
  split
  · split
    · exact ⟨hW, Sm.refl _, Eq.refl (g 121)⟩
    · split
      · exact ⟨hW, Sm.refl _, Eq.refl (g 121)⟩
      · have := Nat.mod_lt (sv (cx (cx x))) (y := g 0) (by omega)
        exact ⟨ws_catch hQ hW (by omega) this (by omega), gC_sm (by omega) (by omega), gC_day (by omega) (by omega)⟩
  · split
    · split
      · next h =>
        obtain ⟨w1, w2, w3, w4⟩ := wy_0 h
        obtain ⟨a, b⟩ := ws_stroke hQ hW hq w4
        refine ⟨a, b, ?_⟩
        show gP _ _ _ 121 = _
        unfold gP
        rw [uv_ne (by omega), uv_ne (by omega)]
        clear b a w4 w3 w2 h
        have key : ∀ (i o : Nat) {h : Nat → Nat}, WQ h → WS N h → gL q (sv (cx (cx x)) % 20 + 1) i o h 121 = h 121 := by
          intro i
          induction i with
          | zero => intro o h _ _; rfl
          | succ i ih =>
            intro o h hQ hW
            rw [gL]
            split
            · next c =>
              have h0 := w_g0 hQ
              have ht := gT_lt hW (q := q) (by omega) c.1
              have e := gD_sm (g := h) (i := gI h q) (q := q) (by omega) (by omega)
              rw [ih _ (WQ.of e hQ) (ws_draw hQ hW (by omega) c.1 (gI_le hW q).2)]
              exact (gD_at (by omega) (by omega)).1 121 (by omega)
            · rfl
        exact key 8 0 hQ hW
      · exact ⟨hW, Sm.refl _, Eq.refl (g 121)⟩
    · split
      · split
        · exact ⟨hW, Sm.refl _, Eq.refl (g 121)⟩
        · have ht := gT_lt hW (q := q) (by omega) (by omega)
          refine ⟨ws_cut hQ hW (by omega) (by omega), gK_sm (by omega) (by omega), ?_⟩
          show gK g q 121 = g 121
          unfold gK
          rw [uv_ne (by omega)]
          exact (gD_at (by omega) (by omega)).1 121 (by omega)
      · exact ⟨hW, Sm.refl _, Eq.refl (g 121)⟩
theorem sI_sA (M : Ob) (k j : Nat) (v : Int32) (f : Nat → Int32) : sA (sI M k v) j f = sI (sA M j f) k v := rfl
theorem r_act (hQ : WQ g) (hW : WS N g) (hM : oA M 6 = Nf g) {x : Int32} (hx : oI M 35 = x) {q : Nat} (hq : q < g 1) : pX11_chanceOf M (nI q) = some (sI (sA M 6 (Nf (gAc q g x).1)) 35 (gAc q g x).2) := by
  have g1 := w_g1 hQ
  have g0 := w_g0 hQ
  have hq6 : q < 6 := by omega
  have hL := w_long hW hq6
  have m6 := Nat.mod_lt (sv (cx x)) (y := 6) (by omega)
  have hM1 : oA (sI M 35 (cx x)) 6 = Nf g := hM
  have hM2 : oA (sI M 35 (cx (cx x))) 6 = Nf g := hM
  have self1 : ∀ y, sI M 35 y = sI (sA M 6 (Nf g)) 35 y := fun y => by rw [← hM, sA_self]
  have ch2 : ∀ n, 0 < n → n < 1000 → pX11_chance (sI M 35 (cx x)) (nI n) = some (nI (sv (cx (cx x)) % n), sI M 35 (cx (cx x))) := fun n a b => by
    rw [r_chance (x := cx x) (oI35 _ _) a b, sI_sI]
  unfold pX11_chanceOf gAc
  by_cases c1 : sv (cx x) % 6 < 2
  · rw [if_pos c1]
    by_cases c2 : g 0 = 0
    · rw [if_pos c2]
      have j : pX11_chanceOf_j49 (sI M 35 (cx x)) (nI q) (nI (sv (cx x) % 6)) = some (sI M 35 (cx x)) := by
        unfold pX11_chanceOf_j49
        simp (disch := omega) only [l_0, l_1, l_2, l_3, l_4, l_5, l_6, l_7, l_8, l_9, l_10, l_11, l_12, l_13, l_14, l_15, l_16, l_17, l_18, l_19, l_20, l_21, l_22, l_23, l_24, l_25, l_26, l_27, l_28, l_29, l_30, l_31, l_32, l_33, l_34, l_35, l_36, l_40, l_41, l_48, l_56, l_57, l_59, l_60, l_61, l_62, l_63, l_79, l_81, l_88, l_93, l_97, l_99, l_105, l_117, l_121, l_122, l_125, l_127, l_131, l_179, l_185, l_193, l_197, l_200, l_201, l_210, l_255, l_390, l_400, l_616, l_900, l_940, l_999, l_1000, l_1024, e_ltT, e_ltF, e_leT, e_leF, e_eqT, e_eqF, e_cl, e_in, e_gd, e_bd, e_ne, e_en, e_nlt, e_ltn, e_len, e_nle, e_nn, e_z0, e_z1, nI_add, pk_mul, e_sub, Nf_app, e_refl, e_reflN, reduceIte, ite_true_, ite_false_, hM1]
      simp (disch := omega) only [l_0, l_1, l_2, l_3, l_4, l_5, l_6, l_7, l_8, l_9, l_10, l_11, l_12, l_13, l_14, l_15, l_16, l_17, l_18, l_19, l_20, l_21, l_22, l_23, l_24, l_25, l_26, l_27, l_28, l_29, l_30, l_31, l_32, l_33, l_34, l_35, l_36, l_40, l_41, l_48, l_56, l_57, l_59, l_60, l_61, l_62, l_63, l_79, l_81, l_88, l_93, l_97, l_99, l_105, l_117, l_121, l_122, l_125, l_127, l_131, l_179, l_185, l_193, l_197, l_200, l_201, l_210, l_255, l_390, l_400, l_616, l_900, l_940, l_999, l_1000, l_1024, e_ltT, e_ltF, e_leT, e_leF, e_eqT, e_eqF, e_cl, e_in, e_gd, e_bd, e_ne, e_en, e_nlt, e_ltn, e_len, e_nle, e_nn, e_z0, e_z1, nI_add, pk_mul, e_sub, Nf_app, e_refl, e_reflN, reduceIte, ite_true_, ite_false_, r_chance hx, hM1, j]
      exact congrArg some (self1 _)
    · rw [if_neg c2]
      have m0 := Nat.mod_lt (sv (cx (cx x))) (y := g 0) (by omega)
      have hn := r_nest hW hM2 hq6
      by_cases c3 : g (125 + q) = 8
      · rw [if_pos c3]
        have hns : ns g q = true := decide_eq_true c3
        rw [hns] at hn
        simp (disch := omega) only [l_0, l_1, l_2, l_3, l_4, l_5, l_6, l_7, l_8, l_9, l_10, l_11, l_12, l_13, l_14, l_15, l_16, l_17, l_18, l_19, l_20, l_21, l_22, l_23, l_24, l_25, l_26, l_27, l_28, l_29, l_30, l_31, l_32, l_33, l_34, l_35, l_36, l_40, l_41, l_48, l_56, l_57, l_59, l_60, l_61, l_62, l_63, l_79, l_81, l_88, l_93, l_97, l_99, l_105, l_117, l_121, l_122, l_125, l_127, l_131, l_179, l_185, l_193, l_197, l_200, l_201, l_210, l_255, l_390, l_400, l_616, l_900, l_940, l_999, l_1000, l_1024, e_ltT, e_ltF, e_leT, e_leF, e_eqT, e_eqF, e_cl, e_in, e_gd, e_bd, e_ne, e_en, e_nlt, e_ltn, e_len, e_nle, e_nn, e_z0, e_z1, nI_add, pk_mul, e_sub, Nf_app, e_refl, e_reflN, reduceIte, ite_true_, ite_false_, r_chance hx, hM1, ch2 (g 0), hn, b01_t]
        exact congrArg some (self1 _)
      · rw [if_neg c3]
        have hns : ns g q = false := decide_eq_false c3
        rw [hns] at hn
        have hc := r_catch hW hM2 (t := sv (cx (cx x)) % g 0) hq6 (by omega)
        simp (disch := omega) only [l_0, l_1, l_2, l_3, l_4, l_5, l_6, l_7, l_8, l_9, l_10, l_11, l_12, l_13, l_14, l_15, l_16, l_17, l_18, l_19, l_20, l_21, l_22, l_23, l_24, l_25, l_26, l_27, l_28, l_29, l_30, l_31, l_32, l_33, l_34, l_35, l_36, l_40, l_41, l_48, l_56, l_57, l_59, l_60, l_61, l_62, l_63, l_79, l_81, l_88, l_93, l_97, l_99, l_105, l_117, l_121, l_122, l_125, l_127, l_131, l_179, l_185, l_193, l_197, l_200, l_201, l_210, l_255, l_390, l_400, l_616, l_900, l_940, l_999, l_1000, l_1024, e_ltT, e_ltF, e_leT, e_leF, e_eqT, e_eqF, e_cl, e_in, e_gd, e_bd, e_ne, e_en, e_nlt, e_ltn, e_len, e_nle, e_nn, e_z0, e_z1, nI_add, pk_mul, e_sub, Nf_app, e_refl, e_reflN, reduceIte, ite_true_, ite_false_, r_chance hx, hM1, ch2 (g 0), hn, b01_f, hc]
        exact congrArg some (sI_sA _ _ _ _ _)
  · rw [if_neg c1]
    by_cases c2 : sv (cx x) % 6 = 2
    · rw [if_pos c2]
      have m0 := Nat.mod_lt (sv (cx (cx x))) (y := 20) (by omega)
      have hw := r_why hQ hW hM2 (n := sv (cx (cx x)) % 20 + 1) hq (by omega)
      have hw4 := wy_le g q (sv (cx (cx x)) % 20 + 1)
      have j : pX11_chanceOf_j49 (sI M 35 (cx x)) (nI q) (nI (sv (cx x) % 6)) = some (sI (sA M 6 (Nf (if wy g q (sv (cx (cx x)) % 20 + 1) = 0 then gW g q (sv (cx (cx x)) % 20 + 1) else g))) 35 (cx (cx x))) := by
        unfold pX11_chanceOf_j49
        by_cases c3 : wy g q (sv (cx (cx x)) % 20 + 1) = 0
        · rw [if_pos c3]
          have hc := r_stroke hQ hW hM2 (n := sv (cx (cx x)) % 20 + 1) hq6 (by omega)
          simp (disch := omega) only [l_0, l_1, l_2, l_3, l_4, l_5, l_6, l_7, l_8, l_9, l_10, l_11, l_12, l_13, l_14, l_15, l_16, l_17, l_18, l_19, l_20, l_21, l_22, l_23, l_24, l_25, l_26, l_27, l_28, l_29, l_30, l_31, l_32, l_33, l_34, l_35, l_36, l_40, l_41, l_48, l_56, l_57, l_59, l_60, l_61, l_62, l_63, l_79, l_81, l_88, l_93, l_97, l_99, l_105, l_117, l_121, l_122, l_125, l_127, l_131, l_179, l_185, l_193, l_197, l_200, l_201, l_210, l_255, l_390, l_400, l_616, l_900, l_940, l_999, l_1000, l_1024, e_ltT, e_ltF, e_leT, e_leF, e_eqT, e_eqF, e_cl, e_in, e_gd, e_bd, e_ne, e_en, e_nlt, e_ltn, e_len, e_nle, e_nn, e_z0, e_z1, nI_add, pk_mul, e_sub, Nf_app, e_refl, e_reflN, reduceIte, ite_true_, ite_false_, ch2 20, hw, hc]
          exact congrArg some (sI_sA _ _ _ _ _)
        · rw [if_neg c3]
          simp (disch := omega) only [l_0, l_1, l_2, l_3, l_4, l_5, l_6, l_7, l_8, l_9, l_10, l_11, l_12, l_13, l_14, l_15, l_16, l_17, l_18, l_19, l_20, l_21, l_22, l_23, l_24, l_25, l_26, l_27, l_28, l_29, l_30, l_31, l_32, l_33, l_34, l_35, l_36, l_40, l_41, l_48, l_56, l_57, l_59, l_60, l_61, l_62, l_63, l_79, l_81, l_88, l_93, l_97, l_99, l_105, l_117, l_121, l_122, l_125, l_127, l_131, l_179, l_185, l_193, l_197, l_200, l_201, l_210, l_255, l_390, l_400, l_616, l_900, l_940, l_999, l_1000, l_1024, e_ltT, e_ltF, e_leT, e_leF, e_eqT, e_eqF, e_cl, e_in, e_gd, e_bd, e_ne, e_en, e_nlt, e_ltn, e_len, e_nle, e_nn, e_z0, e_z1, nI_add, pk_mul, e_sub, Nf_app, e_refl, e_reflN, reduceIte, ite_true_, ite_false_, ch2 20, hw]
          exact congrArg some (self1 _)
      simp (disch := omega) only [l_0, l_1, l_2, l_3, l_4, l_5, l_6, l_7, l_8, l_9, l_10, l_11, l_12, l_13, l_14, l_15, l_16, l_17, l_18, l_19, l_20, l_21, l_22, l_23, l_24, l_25, l_26, l_27, l_28, l_29, l_30, l_31, l_32, l_33, l_34, l_35, l_36, l_40, l_41, l_48, l_56, l_57, l_59, l_60, l_61, l_62, l_63, l_79, l_81, l_88, l_93, l_97, l_99, l_105, l_117, l_121, l_122, l_125, l_127, l_131, l_179, l_185, l_193, l_197, l_200, l_201, l_210, l_255, l_390, l_400, l_616, l_900, l_940, l_999, l_1000, l_1024, e_ltT, e_ltF, e_leT, e_leF, e_eqT, e_eqF, e_cl, e_in, e_gd, e_bd, e_ne, e_en, e_nlt, e_ltn, e_len, e_nle, e_nn, e_z0, e_z1, nI_add, pk_mul, e_sub, Nf_app, e_refl, e_reflN, reduceIte, ite_true_, ite_false_, r_chance hx, j]
    · rw [if_neg c2]
      by_cases c3 : sv (cx x) % 6 = 3
      · rw [if_pos c3]
        have j : pX11_chanceOf_j49 (sI M 35 (cx x)) (nI q) (nI (sv (cx x) % 6)) = some (sI (sA M 6 (Nf (if g (125 + q) = 0 then g else gK g q))) 35 (cx x)) := by
          unfold pX11_chanceOf_j49
          by_cases c4 : g (125 + q) = 0
          · rw [if_pos c4]
            simp (disch := omega) only [l_0, l_1, l_2, l_3, l_4, l_5, l_6, l_7, l_8, l_9, l_10, l_11, l_12, l_13, l_14, l_15, l_16, l_17, l_18, l_19, l_20, l_21, l_22, l_23, l_24, l_25, l_26, l_27, l_28, l_29, l_30, l_31, l_32, l_33, l_34, l_35, l_36, l_40, l_41, l_48, l_56, l_57, l_59, l_60, l_61, l_62, l_63, l_79, l_81, l_88, l_93, l_97, l_99, l_105, l_117, l_121, l_122, l_125, l_127, l_131, l_179, l_185, l_193, l_197, l_200, l_201, l_210, l_255, l_390, l_400, l_616, l_900, l_940, l_999, l_1000, l_1024, e_ltT, e_ltF, e_leT, e_leF, e_eqT, e_eqF, e_cl, e_in, e_gd, e_bd, e_ne, e_en, e_nlt, e_ltn, e_len, e_nle, e_nn, e_z0, e_z1, nI_add, pk_mul, e_sub, Nf_app, e_refl, e_reflN, reduceIte, ite_true_, ite_false_, hM1]
            exact congrArg some (self1 _)
          · rw [if_neg c4]
            have hc := r_cut hQ hW hM1 hq6 (by omega)
            simp (disch := omega) only [l_0, l_1, l_2, l_3, l_4, l_5, l_6, l_7, l_8, l_9, l_10, l_11, l_12, l_13, l_14, l_15, l_16, l_17, l_18, l_19, l_20, l_21, l_22, l_23, l_24, l_25, l_26, l_27, l_28, l_29, l_30, l_31, l_32, l_33, l_34, l_35, l_36, l_40, l_41, l_48, l_56, l_57, l_59, l_60, l_61, l_62, l_63, l_79, l_81, l_88, l_93, l_97, l_99, l_105, l_117, l_121, l_122, l_125, l_127, l_131, l_179, l_185, l_193, l_197, l_200, l_201, l_210, l_255, l_390, l_400, l_616, l_900, l_940, l_999, l_1000, l_1024, e_ltT, e_ltF, e_leT, e_leF, e_eqT, e_eqF, e_cl, e_in, e_gd, e_bd, e_ne, e_en, e_nlt, e_ltn, e_len, e_nle, e_nn, e_z0, e_z1, nI_add, pk_mul, e_sub, Nf_app, e_refl, e_reflN, reduceIte, ite_true_, ite_false_, hM1, hc]
            exact congrArg some (sI_sA _ _ _ _ _)
        simp (disch := omega) only [l_0, l_1, l_2, l_3, l_4, l_5, l_6, l_7, l_8, l_9, l_10, l_11, l_12, l_13, l_14, l_15, l_16, l_17, l_18, l_19, l_20, l_21, l_22, l_23, l_24, l_25, l_26, l_27, l_28, l_29, l_30, l_31, l_32, l_33, l_34, l_35, l_36, l_40, l_41, l_48, l_56, l_57, l_59, l_60, l_61, l_62, l_63, l_79, l_81, l_88, l_93, l_97, l_99, l_105, l_117, l_121, l_122, l_125, l_127, l_131, l_179, l_185, l_193, l_197, l_200, l_201, l_210, l_255, l_390, l_400, l_616, l_900, l_940, l_999, l_1000, l_1024, e_ltT, e_ltF, e_leT, e_leF, e_eqT, e_eqF, e_cl, e_in, e_gd, e_bd, e_ne, e_en, e_nlt, e_ltn, e_len, e_nle, e_nn, e_z0, e_z1, nI_add, pk_mul, e_sub, Nf_app, e_refl, e_reflN, reduceIte, ite_true_, ite_false_, r_chance hx, j]
      · rw [if_neg c3]
        have j : pX11_chanceOf_j49 (sI M 35 (cx x)) (nI q) (nI (sv (cx x) % 6)) = some (sI M 35 (cx x)) := by
          unfold pX11_chanceOf_j49
          simp (disch := omega) only [l_0, l_1, l_2, l_3, l_4, l_5, l_6, l_7, l_8, l_9, l_10, l_11, l_12, l_13, l_14, l_15, l_16, l_17, l_18, l_19, l_20, l_21, l_22, l_23, l_24, l_25, l_26, l_27, l_28, l_29, l_30, l_31, l_32, l_33, l_34, l_35, l_36, l_40, l_41, l_48, l_56, l_57, l_59, l_60, l_61, l_62, l_63, l_79, l_81, l_88, l_93, l_97, l_99, l_105, l_117, l_121, l_122, l_125, l_127, l_131, l_179, l_185, l_193, l_197, l_200, l_201, l_210, l_255, l_390, l_400, l_616, l_900, l_940, l_999, l_1000, l_1024, e_ltT, e_ltF, e_leT, e_leF, e_eqT, e_eqF, e_cl, e_in, e_gd, e_bd, e_ne, e_en, e_nlt, e_ltn, e_len, e_nle, e_nn, e_z0, e_z1, nI_add, pk_mul, e_sub, Nf_app, e_refl, e_reflN, reduceIte, ite_true_, ite_false_, hM1]
        simp (disch := omega) only [l_0, l_1, l_2, l_3, l_4, l_5, l_6, l_7, l_8, l_9, l_10, l_11, l_12, l_13, l_14, l_15, l_16, l_17, l_18, l_19, l_20, l_21, l_22, l_23, l_24, l_25, l_26, l_27, l_28, l_29, l_30, l_31, l_32, l_33, l_34, l_35, l_36, l_40, l_41, l_48, l_56, l_57, l_59, l_60, l_61, l_62, l_63, l_79, l_81, l_88, l_93, l_97, l_99, l_105, l_117, l_121, l_122, l_125, l_127, l_131, l_179, l_185, l_193, l_197, l_200, l_201, l_210, l_255, l_390, l_400, l_616, l_900, l_940, l_999, l_1000, l_1024, e_ltT, e_ltF, e_leT, e_leF, e_eqT, e_eqF, e_cl, e_in, e_gd, e_bd, e_ne, e_en, e_nlt, e_ltn, e_len, e_nle, e_nn, e_z0, e_z1, nI_add, pk_mul, e_sub, Nf_app, e_refl, e_reflN, reduceIte, ite_true_, ite_false_, r_chance hx, j]
        exact congrArg some (self1 _)
theorem c_act (hQ : WQ g) (hW : WS N g) (hR : QR V2 g) (hS : SR V g) {x : Int32} (hx : oI V 12 = x) {q : Nat} (hq : q < g 1) : okS (pX6_actAsDrawn V V2 (nI q)) (fun W => SR W (gAc q g x).1 ∧ oI W 12 = (gAc q g x).2) := by
  have g1 := w_g1 hQ
  have g0 := w_g0 hQ
  have hq6 : q < 6 := by omega
  have hL := w_long hW hq6
  have m6 := Nat.mod_lt (sv (cx x)) (y := 6) (by omega)
  have hS1 := hS.seed (cx x)
  have hS2 := hS.seed (cx (cx x))
  have ch2 : ∀ n, 0 < n → n < 1000 → pX6_draw (sI V 12 (cx x)) (nI n) = some (nI (sv (cx (cx x)) % n), sI V 12 (cx (cx x))) := fun n a b => by
    rw [c_draw (x := cx x) (oI12 _ _) a b, sI_sI]
  have o12 : ∀ y, oI (sI V 12 y) 12 = y := fun y => oI12 _ _
  unfold pX6_actAsDrawn gAc
  by_cases c1 : sv (cx x) % 6 < 2
  · rw [if_pos c1]
    by_cases c2 : g 0 = 0
    · rw [if_pos c2]
      simp (disch := omega) only [l_0, l_1, l_2, l_3, l_4, l_5, l_6, l_7, l_8, l_9, l_10, l_11, l_12, l_13, l_14, l_15, l_16, l_17, l_18, l_19, l_20, l_21, l_22, l_23, l_24, l_25, l_26, l_27, l_28, l_29, l_30, l_31, l_32, l_33, l_34, l_35, l_36, l_40, l_41, l_48, l_56, l_57, l_59, l_60, l_61, l_62, l_63, l_79, l_81, l_88, l_93, l_97, l_99, l_105, l_117, l_121, l_122, l_125, l_127, l_131, l_179, l_185, l_193, l_197, l_200, l_201, l_210, l_255, l_390, l_400, l_616, l_900, l_940, l_999, l_1000, l_1024, e_ltT, e_ltF, e_leT, e_leF, e_eqT, e_eqF, e_cl, e_in, e_gd, e_bd, e_ne, e_en, e_nlt, e_ltn, e_len, e_nle, e_nn, e_z0, e_z1, nI_add, pk_mul, e_sub, Nf_app, e_refl, e_reflN, reduceIte, ite_true_, ite_false_, c_draw hx, q_0 hR]
      exact okS_some ⟨hS1, oI12 _ _⟩
    · rw [if_neg c2]
      have m0 := Nat.mod_lt (sv (cx (cx x))) (y := g 0) (by omega)
      by_cases c3 : g (125 + q) = 8
      · rw [if_pos c3]
        have cc := c_catch8 hS2 (t := sv (cx (cx x)) % g 0) hq6 c3
        simp (disch := omega) only [l_0, l_1, l_2, l_3, l_4, l_5, l_6, l_7, l_8, l_9, l_10, l_11, l_12, l_13, l_14, l_15, l_16, l_17, l_18, l_19, l_20, l_21, l_22, l_23, l_24, l_25, l_26, l_27, l_28, l_29, l_30, l_31, l_32, l_33, l_34, l_35, l_36, l_40, l_41, l_48, l_56, l_57, l_59, l_60, l_61, l_62, l_63, l_79, l_81, l_88, l_93, l_97, l_99, l_105, l_117, l_121, l_122, l_125, l_127, l_131, l_179, l_185, l_193, l_197, l_200, l_201, l_210, l_255, l_390, l_400, l_616, l_900, l_940, l_999, l_1000, l_1024, e_ltT, e_ltF, e_leT, e_leF, e_eqT, e_eqF, e_cl, e_in, e_gd, e_bd, e_ne, e_en, e_nlt, e_ltn, e_len, e_nle, e_nn, e_z0, e_z1, nI_add, pk_mul, e_sub, Nf_app, e_refl, e_reflN, reduceIte, ite_true_, ite_false_, c_draw hx, q_0 hR, ch2 (g 0), cc]
        exact okS_some ⟨hS2, oI12 _ _⟩
      · rw [if_neg c3]
        obtain ⟨W, e1, hS', e2⟩ := c_catch hW hS2 (t := sv (cx (cx x)) % g 0) hq6 (by omega)
        simp (disch := omega) only [l_0, l_1, l_2, l_3, l_4, l_5, l_6, l_7, l_8, l_9, l_10, l_11, l_12, l_13, l_14, l_15, l_16, l_17, l_18, l_19, l_20, l_21, l_22, l_23, l_24, l_25, l_26, l_27, l_28, l_29, l_30, l_31, l_32, l_33, l_34, l_35, l_36, l_40, l_41, l_48, l_56, l_57, l_59, l_60, l_61, l_62, l_63, l_79, l_81, l_88, l_93, l_97, l_99, l_105, l_117, l_121, l_122, l_125, l_127, l_131, l_179, l_185, l_193, l_197, l_200, l_201, l_210, l_255, l_390, l_400, l_616, l_900, l_940, l_999, l_1000, l_1024, e_ltT, e_ltF, e_leT, e_leF, e_eqT, e_eqF, e_cl, e_in, e_gd, e_bd, e_ne, e_en, e_nlt, e_ltn, e_len, e_nle, e_nn, e_z0, e_z1, nI_add, pk_mul, e_sub, Nf_app, e_refl, e_reflN, reduceIte, ite_true_, ite_false_, c_draw hx, q_0 hR, ch2 (g 0), e1]
        exact okS_some ⟨hS', e2.trans (oI12 _ _)⟩
  · rw [if_neg c1]
    by_cases c2 : sv (cx x) % 6 = 2
    · rw [if_pos c2]
      have m0 := Nat.mod_lt (sv (cx (cx x))) (y := 20) (by omega)
      have hw := c_why hQ hW hR hS2 (n := sv (cx (cx x)) % 20 + 1) hq (by omega)
      have hw4 := wy_le g q (sv (cx (cx x)) % 20 + 1)
      by_cases c3 : wy g q (sv (cx (cx x)) % 20 + 1) = 0
      · rw [if_pos c3]
        obtain ⟨W, e1, hS', e2⟩ := c_stroke hQ hW hR hS2 (n := sv (cx (cx x)) % 20 + 1) hq (by omega)
        simp (disch := omega) only [l_0, l_1, l_2, l_3, l_4, l_5, l_6, l_7, l_8, l_9, l_10, l_11, l_12, l_13, l_14, l_15, l_16, l_17, l_18, l_19, l_20, l_21, l_22, l_23, l_24, l_25, l_26, l_27, l_28, l_29, l_30, l_31, l_32, l_33, l_34, l_35, l_36, l_40, l_41, l_48, l_56, l_57, l_59, l_60, l_61, l_62, l_63, l_79, l_81, l_88, l_93, l_97, l_99, l_105, l_117, l_121, l_122, l_125, l_127, l_131, l_179, l_185, l_193, l_197, l_200, l_201, l_210, l_255, l_390, l_400, l_616, l_900, l_940, l_999, l_1000, l_1024, e_ltT, e_ltF, e_leT, e_leF, e_eqT, e_eqF, e_cl, e_in, e_gd, e_bd, e_ne, e_en, e_nlt, e_ltn, e_len, e_nle, e_nn, e_z0, e_z1, nI_add, pk_mul, e_sub, Nf_app, e_refl, e_reflN, reduceIte, ite_true_, ite_false_, c_draw hx, ch2 20, hw, e1]
        exact okS_some ⟨hS', e2.trans (oI12 _ _)⟩
      · rw [if_neg c3]
        simp (disch := omega) only [l_0, l_1, l_2, l_3, l_4, l_5, l_6, l_7, l_8, l_9, l_10, l_11, l_12, l_13, l_14, l_15, l_16, l_17, l_18, l_19, l_20, l_21, l_22, l_23, l_24, l_25, l_26, l_27, l_28, l_29, l_30, l_31, l_32, l_33, l_34, l_35, l_36, l_40, l_41, l_48, l_56, l_57, l_59, l_60, l_61, l_62, l_63, l_79, l_81, l_88, l_93, l_97, l_99, l_105, l_117, l_121, l_122, l_125, l_127, l_131, l_179, l_185, l_193, l_197, l_200, l_201, l_210, l_255, l_390, l_400, l_616, l_900, l_940, l_999, l_1000, l_1024, e_ltT, e_ltF, e_leT, e_leF, e_eqT, e_eqF, e_cl, e_in, e_gd, e_bd, e_ne, e_en, e_nlt, e_ltn, e_len, e_nle, e_nn, e_z0, e_z1, nI_add, pk_mul, e_sub, Nf_app, e_refl, e_reflN, reduceIte, ite_true_, ite_false_, c_draw hx, ch2 20, hw]
        exact okS_some ⟨hS2, oI12 _ _⟩
    · rw [if_neg c2]
      by_cases c3 : sv (cx x) % 6 = 3
      · rw [if_pos c3]
        by_cases c4 : g (125 + q) = 0
        · rw [if_pos c4]
          have hw : pX6_whyNoCut (sI V 12 (cx x)) (nI q) = some (nI 1) := by
            unfold pX6_whyNoCut
            simp (disch := omega) only [l_0, l_1, l_2, l_3, l_4, l_5, l_6, l_7, l_8, l_9, l_10, l_11, l_12, l_13, l_14, l_15, l_16, l_17, l_18, l_19, l_20, l_21, l_22, l_23, l_24, l_25, l_26, l_27, l_28, l_29, l_30, l_31, l_32, l_33, l_34, l_35, l_36, l_40, l_41, l_48, l_56, l_57, l_59, l_60, l_61, l_62, l_63, l_79, l_81, l_88, l_93, l_97, l_99, l_105, l_117, l_121, l_122, l_125, l_127, l_131, l_179, l_185, l_193, l_197, l_200, l_201, l_210, l_255, l_390, l_400, l_616, l_900, l_940, l_999, l_1000, l_1024, e_ltT, e_ltF, e_leT, e_leF, e_eqT, e_eqF, e_cl, e_in, e_gd, e_bd, e_ne, e_en, e_nlt, e_ltn, e_len, e_nle, e_nn, e_z0, e_z1, nI_add, pk_mul, e_sub, Nf_app, e_refl, e_reflN, reduceIte, ite_true_, ite_false_, s_1 hS1]
          simp (disch := omega) only [l_0, l_1, l_2, l_3, l_4, l_5, l_6, l_7, l_8, l_9, l_10, l_11, l_12, l_13, l_14, l_15, l_16, l_17, l_18, l_19, l_20, l_21, l_22, l_23, l_24, l_25, l_26, l_27, l_28, l_29, l_30, l_31, l_32, l_33, l_34, l_35, l_36, l_40, l_41, l_48, l_56, l_57, l_59, l_60, l_61, l_62, l_63, l_79, l_81, l_88, l_93, l_97, l_99, l_105, l_117, l_121, l_122, l_125, l_127, l_131, l_179, l_185, l_193, l_197, l_200, l_201, l_210, l_255, l_390, l_400, l_616, l_900, l_940, l_999, l_1000, l_1024, e_ltT, e_ltF, e_leT, e_leF, e_eqT, e_eqF, e_cl, e_in, e_gd, e_bd, e_ne, e_en, e_nlt, e_ltn, e_len, e_nle, e_nn, e_z0, e_z1, nI_add, pk_mul, e_sub, Nf_app, e_refl, e_reflN, reduceIte, ite_true_, ite_false_, c_draw hx, hw]
          exact okS_some ⟨hS1, oI12 _ _⟩
        · rw [if_neg c4]
          have hw : pX6_whyNoCut (sI V 12 (cx x)) (nI q) = some (nI 0) := by
            unfold pX6_whyNoCut
            simp (disch := omega) only [l_0, l_1, l_2, l_3, l_4, l_5, l_6, l_7, l_8, l_9, l_10, l_11, l_12, l_13, l_14, l_15, l_16, l_17, l_18, l_19, l_20, l_21, l_22, l_23, l_24, l_25, l_26, l_27, l_28, l_29, l_30, l_31, l_32, l_33, l_34, l_35, l_36, l_40, l_41, l_48, l_56, l_57, l_59, l_60, l_61, l_62, l_63, l_79, l_81, l_88, l_93, l_97, l_99, l_105, l_117, l_121, l_122, l_125, l_127, l_131, l_179, l_185, l_193, l_197, l_200, l_201, l_210, l_255, l_390, l_400, l_616, l_900, l_940, l_999, l_1000, l_1024, e_ltT, e_ltF, e_leT, e_leF, e_eqT, e_eqF, e_cl, e_in, e_gd, e_bd, e_ne, e_en, e_nlt, e_ltn, e_len, e_nle, e_nn, e_z0, e_z1, nI_add, pk_mul, e_sub, Nf_app, e_refl, e_reflN, reduceIte, ite_true_, ite_false_, s_1 hS1]
          obtain ⟨W, e1, hS', e2⟩ := c_cut hQ hW hS1 hq6 (by omega)
          simp (disch := omega) only [l_0, l_1, l_2, l_3, l_4, l_5, l_6, l_7, l_8, l_9, l_10, l_11, l_12, l_13, l_14, l_15, l_16, l_17, l_18, l_19, l_20, l_21, l_22, l_23, l_24, l_25, l_26, l_27, l_28, l_29, l_30, l_31, l_32, l_33, l_34, l_35, l_36, l_40, l_41, l_48, l_56, l_57, l_59, l_60, l_61, l_62, l_63, l_79, l_81, l_88, l_93, l_97, l_99, l_105, l_117, l_121, l_122, l_125, l_127, l_131, l_179, l_185, l_193, l_197, l_200, l_201, l_210, l_255, l_390, l_400, l_616, l_900, l_940, l_999, l_1000, l_1024, e_ltT, e_ltF, e_leT, e_leF, e_eqT, e_eqF, e_cl, e_in, e_gd, e_bd, e_ne, e_en, e_nlt, e_ltn, e_len, e_nle, e_nn, e_z0, e_z1, nI_add, pk_mul, e_sub, Nf_app, e_refl, e_reflN, reduceIte, ite_true_, ite_false_, c_draw hx, hw, e1]
          exact okS_some ⟨hS', e2.trans (oI12 _ _)⟩
      · rw [if_neg c3]
        simp (disch := omega) only [l_0, l_1, l_2, l_3, l_4, l_5, l_6, l_7, l_8, l_9, l_10, l_11, l_12, l_13, l_14, l_15, l_16, l_17, l_18, l_19, l_20, l_21, l_22, l_23, l_24, l_25, l_26, l_27, l_28, l_29, l_30, l_31, l_32, l_33, l_34, l_35, l_36, l_40, l_41, l_48, l_56, l_57, l_59, l_60, l_61, l_62, l_63, l_79, l_81, l_88, l_93, l_97, l_99, l_105, l_117, l_121, l_122, l_125, l_127, l_131, l_179, l_185, l_193, l_197, l_200, l_201, l_210, l_255, l_390, l_400, l_616, l_900, l_940, l_999, l_1000, l_1024, e_ltT, e_ltF, e_leT, e_leF, e_eqT, e_eqF, e_cl, e_in, e_gd, e_bd, e_ne, e_en, e_nlt, e_ltn, e_len, e_nle, e_nn, e_z0, e_z1, nI_add, pk_mul, e_sub, Nf_app, e_refl, e_reflN, reduceIte, ite_true_, ite_false_, c_draw hx]
        exact okS_some ⟨hS1, oI12 _ _⟩
/-- all persons from the k-th on -/
noncomputable def gAs : Nat → Nat → (Nat → Nat) → Int32 → (Nat → Nat) × Int32
  | 0, _, g, x => (g, x)
  | m + 1, q, g, x => gAs m (q + 1) (gAc q g x).1 (gAc q g x).2
theorem gAs_ok : ∀ (m q : Nat) {g : Nat → Nat} (x : Int32), WQ g → WS N g → q + m ≤ g 1 → WS N (gAs m q g x).1 ∧ Sm g (gAs m q g x).1 ∧ (gAs m q g x).1 121 = g 121
  | 0, _, g, _, _, hW, _ => ⟨hW, Sm.refl _, rfl⟩
  | m + 1, q, g, x, hQ, hW, h => by
    obtain ⟨a, b, c⟩ := gAc_ok hQ hW (q := q) (by omega) x
    have e1 := b 1 (by omega)
    obtain ⟨a2, b2, c2⟩ := gAs_ok m (q + 1) (gAc q g x).2 (WQ.of b hQ) a (by omega)
    exact ⟨a2, b.trans b2, c2.trans c⟩
theorem r_acts (l1 l3 : Int32) : ∀ (f m q : Nat) {g : Nat → Nat} {M : Ob} {x : Int32}, WQ g → WS N g → oA M 6 = Nf g → oI M 35 = x → q + m = g 1 → m < f → pX11_chances_l28 l1 l3 f (nI q) M = some (sI (sA M 6 (Nf (gAs m q g x).1)) 35 (gAs m q g x).2)
  | 0, _, _, _, _, _, _, _, _, _, _, h => by omega
  | f + 1, m, q, g, M, x, hQ, hW, hM, hx, hm, hf => by
    have g1 := w_g1 hQ
    rw [pX11_chances_l28]
    cases m with
    | zero =>
      simp (disch := omega) only [l_0, l_1, l_2, l_3, l_4, l_5, l_6, l_7, l_8, l_9, l_10, l_11, l_12, l_13, l_14, l_15, l_16, l_17, l_18, l_19, l_20, l_21, l_22, l_23, l_24, l_25, l_26, l_27, l_28, l_29, l_30, l_31, l_32, l_33, l_34, l_35, l_36, l_40, l_41, l_48, l_56, l_57, l_59, l_60, l_61, l_62, l_63, l_79, l_81, l_88, l_93, l_97, l_99, l_105, l_117, l_121, l_122, l_125, l_127, l_131, l_179, l_185, l_193, l_197, l_200, l_201, l_210, l_255, l_390, l_400, l_616, l_900, l_940, l_999, l_1000, l_1024, e_ltT, e_ltF, e_leT, e_leF, e_eqT, e_eqF, e_cl, e_in, e_gd, e_bd, e_ne, e_en, e_nlt, e_ltn, e_len, e_nle, e_nn, e_z0, e_z1, nI_add, pk_mul, e_sub, Nf_app, e_refl, e_reflN, reduceIte, ite_true_, ite_false_, hM]
      rw [gAs, ← hM, sA_self, ← hx, sI_self]
    | succ m =>
      obtain ⟨a, b, c⟩ := gAc_ok hQ hW (q := q) (by omega) x
      have e1 := b 1 (by omega)
      have ih := r_acts l1 l3 f m (q + 1) (g := (gAc q g x).1) (M := sI (sA M 6 (Nf (gAc q g x).1)) 35 (gAc q g x).2) (x := (gAc q g x).2) (WQ.of b hQ) a (oA6I _ _ _) (oI35 _ _) (by omega) (by omega)
      rw [sI_sA, sA_sA, sI_sI] at ih
      simp (disch := omega) only [l_0, l_1, l_2, l_3, l_4, l_5, l_6, l_7, l_8, l_9, l_10, l_11, l_12, l_13, l_14, l_15, l_16, l_17, l_18, l_19, l_20, l_21, l_22, l_23, l_24, l_25, l_26, l_27, l_28, l_29, l_30, l_31, l_32, l_33, l_34, l_35, l_36, l_40, l_41, l_48, l_56, l_57, l_59, l_60, l_61, l_62, l_63, l_79, l_81, l_88, l_93, l_97, l_99, l_105, l_117, l_121, l_122, l_125, l_127, l_131, l_179, l_185, l_193, l_197, l_200, l_201, l_210, l_255, l_390, l_400, l_616, l_900, l_940, l_999, l_1000, l_1024, e_ltT, e_ltF, e_leT, e_leF, e_eqT, e_eqF, e_cl, e_in, e_gd, e_bd, e_ne, e_en, e_nlt, e_ltn, e_len, e_nle, e_nn, e_z0, e_z1, nI_add, pk_mul, e_sub, Nf_app, e_refl, e_reflN, reduceIte, ite_true_, ite_false_, hM, r_act hQ hW hM hx, ih]
      rw [gAs]
theorem c_acts {V2 : Ob} (l2 l4 : Int32) : ∀ (f m q : Nat) {g : Nat → Nat} {V : Ob} {x : Int32}, WQ g → WS N g → QR V2 g → SR V g → oI V 12 = x → q + m = g 1 → m < f → okS (pX6_letDrawnDaysGo_l17 V2 l2 l4 f (nI q) V) (fun W => SR W (gAs m q g x).1 ∧ oI W 12 = (gAs m q g x).2)
  | 0, _, _, _, _, _, _, _, _, _, _, _, h => by omega
  | f + 1, m, q, g, V, x, hQ, hW, hR, hS, hx, hm, hf => by
    have g1 := w_g1 hQ
    rw [pX6_letDrawnDaysGo_l17]
    cases m with
    | zero =>
      simp (disch := omega) only [l_0, l_1, l_2, l_3, l_4, l_5, l_6, l_7, l_8, l_9, l_10, l_11, l_12, l_13, l_14, l_15, l_16, l_17, l_18, l_19, l_20, l_21, l_22, l_23, l_24, l_25, l_26, l_27, l_28, l_29, l_30, l_31, l_32, l_33, l_34, l_35, l_36, l_40, l_41, l_48, l_56, l_57, l_59, l_60, l_61, l_62, l_63, l_79, l_81, l_88, l_93, l_97, l_99, l_105, l_117, l_121, l_122, l_125, l_127, l_131, l_179, l_185, l_193, l_197, l_200, l_201, l_210, l_255, l_390, l_400, l_616, l_900, l_940, l_999, l_1000, l_1024, e_ltT, e_ltF, e_leT, e_leF, e_eqT, e_eqF, e_cl, e_in, e_gd, e_bd, e_ne, e_en, e_nlt, e_ltn, e_len, e_nle, e_nn, e_z0, e_z1, nI_add, pk_mul, e_sub, Nf_app, e_refl, e_reflN, reduceIte, ite_true_, ite_false_, q_4 hR]
      exact okS_some ⟨hS, hx⟩
    | succ m =>
      obtain ⟨a, b, c⟩ := gAc_ok hQ hW (q := q) (by omega) x
      have e1 := b 1 (by omega)
      obtain ⟨W, x1, hS', x2⟩ := c_act hQ hW hR hS hx (q := q) (by omega)
      have ih := c_acts l2 l4 f m (q + 1) (g := (gAc q g x).1) (V := W) (x := (gAc q g x).2) (WQ.of b hQ) a (QR.of b hQ hR) hS' x2 (by omega) (by omega)
      simp (disch := omega) only [l_0, l_1, l_2, l_3, l_4, l_5, l_6, l_7, l_8, l_9, l_10, l_11, l_12, l_13, l_14, l_15, l_16, l_17, l_18, l_19, l_20, l_21, l_22, l_23, l_24, l_25, l_26, l_27, l_28, l_29, l_30, l_31, l_32, l_33, l_34, l_35, l_36, l_40, l_41, l_48, l_56, l_57, l_59, l_60, l_61, l_62, l_63, l_79, l_81, l_88, l_93, l_97, l_99, l_105, l_117, l_121, l_122, l_125, l_127, l_131, l_179, l_185, l_193, l_197, l_200, l_201, l_210, l_255, l_390, l_400, l_616, l_900, l_940, l_999, l_1000, l_1024, e_ltT, e_ltF, e_leT, e_leF, e_eqT, e_eqF, e_cl, e_in, e_gd, e_bd, e_ne, e_en, e_nlt, e_ltn, e_len, e_nle, e_nn, e_z0, e_z1, nI_add, pk_mul, e_sub, Nf_app, e_refl, e_reflN, reduceIte, ite_true_, ite_false_, q_4 hR, x1]
      exact ih
/-- n days by draws -/
noncomputable def gX : Nat → (Nat → Nat) → Int32 → (Nat → Nat) × Int32
  | 0, g, x => (g, x)
  | n + 1, g, x => gX n (gE (gAs (g 1) 0 g x).1) (gAs (g 1) 0 g x).2
theorem gX_ok : ∀ (n : Nat) {g : Nat → Nat} (x : Int32), WQ g → WS N g → WS N (gX n g x).1 ∧ Sm g (gX n g x).1 ∧ (gX n g x).1 121 = g 121 + n
  | 0, g, _, _, hW => ⟨hW, Sm.refl _, rfl⟩
  | n + 1, g, x, hQ, hW => by
    obtain ⟨a, b, c⟩ := gAs_ok (g 1) 0 x hQ hW (by omega)
    obtain ⟨a1, b1, c1⟩ := ws_day (WQ.of b hQ) a
    obtain ⟨a2, b2, c2⟩ := gX_ok n (gAs (g 1) 0 g x).2 (WQ.of b1 (WQ.of b hQ)) a1
    exact ⟨a2, (b.trans b1).trans b2, by rw [gX, c2, c1, c]; omega⟩
theorem r_chances_l {n : Nat} (hn : n < 1000) : ∀ (f i d : Nat) {g : Nat → Nat} {M : Ob} {x : Int32}, WQ g → WS N g → oA M 6 = Nf g → oI M 35 = x → g 121 ≤ 400 → i ≤ n → d = min (n - i) (400 - g 121) → d < f → pX11_chances_l7 (nI n) f (nI i) M = some (nI (i + d), sI (sA M 6 (Nf (gX d g x).1)) 35 (gX d g x).2)
  | 0, _, _, _, _, _, _, _, _, _, _, _, _, h => by omega
  | f + 1, i, d, g, M, x, hQ, hW, hM, hx, hd, hi, hm, hf => by
    have g1 := w_g1 hQ
    rw [pX11_chances_l7]
    by_cases c : d = 0
    · subst c
      have self1 : sI (sA M 6 (Nf (gX 0 g x).1)) 35 (gX 0 g x).2 = M := by
        show sI (sA M 6 (Nf g)) 35 x = M
        rw [← hM, sA_self, ← hx, sI_self]
      rw [self1]
      by_cases c2 : i = n
      · simp (disch := omega) only [l_0, l_1, l_2, l_3, l_4, l_5, l_6, l_7, l_8, l_9, l_10, l_11, l_12, l_13, l_14, l_15, l_16, l_17, l_18, l_19, l_20, l_21, l_22, l_23, l_24, l_25, l_26, l_27, l_28, l_29, l_30, l_31, l_32, l_33, l_34, l_35, l_36, l_40, l_41, l_48, l_56, l_57, l_59, l_60, l_61, l_62, l_63, l_79, l_81, l_88, l_93, l_97, l_99, l_105, l_117, l_121, l_122, l_125, l_127, l_131, l_179, l_185, l_193, l_197, l_200, l_201, l_210, l_255, l_390, l_400, l_616, l_900, l_940, l_999, l_1000, l_1024, e_ltT, e_ltF, e_leT, e_leF, e_eqT, e_eqF, e_cl, e_in, e_gd, e_bd, e_ne, e_en, e_nlt, e_ltn, e_len, e_nle, e_nn, e_z0, e_z1, nI_add, pk_mul, e_sub, Nf_app, e_refl, e_reflN, reduceIte, ite_true_, ite_false_, hM]; rfl
      · have : g 121 = 400 := by omega
        simp (disch := omega) only [l_0, l_1, l_2, l_3, l_4, l_5, l_6, l_7, l_8, l_9, l_10, l_11, l_12, l_13, l_14, l_15, l_16, l_17, l_18, l_19, l_20, l_21, l_22, l_23, l_24, l_25, l_26, l_27, l_28, l_29, l_30, l_31, l_32, l_33, l_34, l_35, l_36, l_40, l_41, l_48, l_56, l_57, l_59, l_60, l_61, l_62, l_63, l_79, l_81, l_88, l_93, l_97, l_99, l_105, l_117, l_121, l_122, l_125, l_127, l_131, l_179, l_185, l_193, l_197, l_200, l_201, l_210, l_255, l_390, l_400, l_616, l_900, l_940, l_999, l_1000, l_1024, e_ltT, e_ltF, e_leT, e_leF, e_eqT, e_eqF, e_cl, e_in, e_gd, e_bd, e_ne, e_en, e_nlt, e_ltn, e_len, e_nle, e_nn, e_z0, e_z1, nI_add, pk_mul, e_sub, Nf_app, e_refl, e_reflN, reduceIte, ite_true_, ite_false_, hM]; rfl
    · obtain ⟨d', rfl⟩ : ∃ d', d = d' + 1 := ⟨d - 1, by omega⟩
      obtain ⟨a, b, e⟩ := gAs_ok (g 1) 0 x hQ hW (by omega)
      obtain ⟨a1, b1, e1⟩ := ws_day (WQ.of b hQ) a
      have h1 := r_acts (nI n) (nI i) fu (g 1) 0 hQ hW hM hx (by omega) (by rw [fu_eq]; omega)
      have h2 := r_day (M := sI (sA M 6 (Nf (gAs (g 1) 0 g x).1)) 35 (gAs (g 1) 0 g x).2) (WQ.of b hQ) a (oA6I _ _ _) (by omega)
      rw [sI_sA, sA_sA] at h2
      have ih := r_chances_l hn f (i + 1) d' (g := gE (gAs (g 1) 0 g x).1) (M := sI (sA M 6 (Nf (gE (gAs (g 1) 0 g x).1))) 35 (gAs (g 1) 0 g x).2) (WQ.of b1 (WQ.of b hQ)) a1 (oA6I _ _ _) (oI35 _ _) (by omega) (by omega) (by omega) (by omega)
      rw [sI_sA, sA_sA, sI_sI] at ih
      have xx : i + 1 + d' = i + (d' + 1) := by omega
      rw [xx] at ih
      simp (disch := omega) only [l_0, l_1, l_2, l_3, l_4, l_5, l_6, l_7, l_8, l_9, l_10, l_11, l_12, l_13, l_14, l_15, l_16, l_17, l_18, l_19, l_20, l_21, l_22, l_23, l_24, l_25, l_26, l_27, l_28, l_29, l_30, l_31, l_32, l_33, l_34, l_35, l_36, l_40, l_41, l_48, l_56, l_57, l_59, l_60, l_61, l_62, l_63, l_79, l_81, l_88, l_93, l_97, l_99, l_105, l_117, l_121, l_122, l_125, l_127, l_131, l_179, l_185, l_193, l_197, l_200, l_201, l_210, l_255, l_390, l_400, l_616, l_900, l_940, l_999, l_1000, l_1024, e_ltT, e_ltF, e_leT, e_leF, e_eqT, e_eqF, e_cl, e_in, e_gd, e_bd, e_ne, e_en, e_nlt, e_ltn, e_len, e_nle, e_nn, e_z0, e_z1, nI_add, pk_mul, e_sub, Nf_app, e_refl, e_reflN, reduceIte, ite_true_, ite_false_, hM, h1, h2, ih]
      rw [gX]
theorem r_chances {n : Nat} (hn : n < 1000) (hQ : WQ g) (hW : WS N g) (hM : oA M 6 = Nf g) (x : Int32) (hd : g 121 ≤ 400) : pX11_chances M (nI n) x = some (nI (min n (400 - g 121)), sI (sA M 6 (Nf (gX (min n (400 - g 121)) g x).1)) 35 (gX (min n (400 - g 121)) g x).2) := by
  have h := r_chances_l hn fu 0 (min n (400 - g 121)) (M := sI M 35 x) (x := x) hQ hW hM (oI35 _ _) hd (by omega) (by omega) (by rw [fu_eq]; omega)
  unfold pX11_chances
  rw [Nat.zero_add, sI_sA, sI_sI] at h
  rw [l_0, h, e_bd]
theorem c_chances_l {n : Nat} (hn : n < 1000) {V2 : Ob} : ∀ (f i : Nat) {g : Nat → Nat} {V : Ob} {x : Int32}, WQ g → WS N g → QR V2 g → SR V g → oI V 12 = x → g 121 + (n - i) < 1000000 → i ≤ n → n - i < f → okS (pX6_letDrawnDaysGo_l8 V2 (nI n) f (nI i) V) (fun W => SR W (gX (n - i) g x).1)
  | 0, _, _, _, _, _, _, _, _, _, _, _, h => by omega
  | f + 1, i, g, V, x, hQ, hW, hR, hS, hx, hd, hi, hf => by
    have g1 := w_g1 hQ
    rw [pX6_letDrawnDaysGo_l8]
    by_cases c : i = n
    · simp (disch := omega) only [l_0, l_1, l_2, l_3, l_4, l_5, l_6, l_7, l_8, l_9, l_10, l_11, l_12, l_13, l_14, l_15, l_16, l_17, l_18, l_19, l_20, l_21, l_22, l_23, l_24, l_25, l_26, l_27, l_28, l_29, l_30, l_31, l_32, l_33, l_34, l_35, l_36, l_40, l_41, l_48, l_56, l_57, l_59, l_60, l_61, l_62, l_63, l_79, l_81, l_88, l_93, l_97, l_99, l_105, l_117, l_121, l_122, l_125, l_127, l_131, l_179, l_185, l_193, l_197, l_200, l_201, l_210, l_255, l_390, l_400, l_616, l_900, l_940, l_999, l_1000, l_1024, e_ltT, e_ltF, e_leT, e_leF, e_eqT, e_eqF, e_cl, e_in, e_gd, e_bd, e_ne, e_en, e_nlt, e_ltn, e_len, e_nle, e_nn, e_z0, e_z1, nI_add, pk_mul, e_sub, Nf_app, e_refl, e_reflN, reduceIte, ite_true_, ite_false_, hR.1]
      refine okS_some ?_
      rw [c, Nat.sub_self]; exact hS
    · obtain ⟨a, b, e⟩ := gAs_ok (g 1) 0 x hQ hW (by omega)
      obtain ⟨a1, b1, e1⟩ := ws_day (WQ.of b hQ) a
      obtain ⟨W, x1, hS', x2⟩ := c_acts (nI n) (nI i) fu (g 1) 0 hQ hW hR hS hx (by omega) (by rw [fu_eq]; omega)
      obtain ⟨W2, y1, hS2, y2⟩ := c_day (WQ.of b hQ) a (QR.of b hQ hR) hS' (by omega)
      have ih := c_chances_l hn f (i + 1) (g := gE (gAs (g 1) 0 g x).1) (V := W2) (x := (gAs (g 1) 0 g x).2) (WQ.of b1 (WQ.of b hQ)) a1 (QR.of b1 (WQ.of b hQ) (QR.of b hQ hR)) hS2 (y2.trans x2) (by omega) (by omega) (by omega)
      have xx : n - i = n - (i + 1) + 1 := by omega
      rw [xx, gX]
      simp (disch := omega) only [l_0, l_1, l_2, l_3, l_4, l_5, l_6, l_7, l_8, l_9, l_10, l_11, l_12, l_13, l_14, l_15, l_16, l_17, l_18, l_19, l_20, l_21, l_22, l_23, l_24, l_25, l_26, l_27, l_28, l_29, l_30, l_31, l_32, l_33, l_34, l_35, l_36, l_40, l_41, l_48, l_56, l_57, l_59, l_60, l_61, l_62, l_63, l_79, l_81, l_88, l_93, l_97, l_99, l_105, l_117, l_121, l_122, l_125, l_127, l_131, l_179, l_185, l_193, l_197, l_200, l_201, l_210, l_255, l_390, l_400, l_616, l_900, l_940, l_999, l_1000, l_1024, e_ltT, e_ltF, e_leT, e_leF, e_eqT, e_eqF, e_cl, e_in, e_gd, e_bd, e_ne, e_en, e_nlt, e_ltn, e_len, e_nle, e_nn, e_z0, e_z1, nI_add, pk_mul, e_sub, Nf_app, e_refl, e_reflN, reduceIte, ite_true_, ite_false_, x1, y1]
      exact ih
theorem c_chances {n : Nat} (hn : n < 1000) (hQ : WQ g) (hW : WS N g) (hR : QR V2 g) (hS : SR V g) (x : Int32) (hd : g 121 ≤ 1000) : okS (pX6_letDrawnDaysGo V V2 (nI n) x) (fun W => SR W (gX n g x).1) := by
  obtain ⟨W, x1, hS'⟩ := c_chances_l hn fu 0 (V := sI V 12 x) hQ hW hR (hS.seed x) (oI12 _ _) (by omega) (by omega) (by rw [fu_eq]; omega)
  rw [Nat.sub_zero] at hS'
  unfold pX6_letDrawnDaysGo
  rw [l_0, x1, e_bd]
  exact okS_some hS'
end
