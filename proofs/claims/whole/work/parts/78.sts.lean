/-! a sentence read; images -/
section
variable {N : Nat} {V M : Ob} {g h nn : Nat → Nat}
theorem WQ.lo (e : ∀ k, k < 209 → h k = g k) (H : WQ g) : WQ h := by
  obtain ⟨w0, w1, w2, w3, w4, w5, w6, w7, w8⟩ := H
  unfold WQ
  rw [e 0 (by omega), e 1 (by omega), e 2 (by omega), e 3 (by omega), e 4 (by omega)]
  refine ⟨w0, w1, w2, w3, w4, fun i hi => ?_, fun i hi => ?_, fun i hi => ?_, fun i hi => ?_⟩
  · rw [e _ (by omega), e _ (by omega)]; exact w5 i hi
  · rw [e _ (by omega)]; exact w6 i hi
  · rw [e _ (by omega), e _ (by omega), e _ (by omega)]; exact w7 i hi
  · rw [e _ (by omega)]; exact w8 i hi
theorem sm185 (e : ∀ k, k < 209 → h k = g k) : sm (fun t => h (185 + t)) 8 = sm (fun t => g (185 + t)) 8 := sm_cong (fun k hk => e _ (by omega))
theorem WS.lo (hQ : WQ g) (e : ∀ k, k < 209 → h k = g k) (H : WS N g) : WS N h := by
  have g1 := w_g1 hQ
  obtain ⟨a0, a1, a2, a3, a4, a5⟩ := H
  unfold WS
  rw [e 0 (by omega), e 1 (by omega), sm185 e]
  refine ⟨fun p hp => ?_, fun p hp k hk => ?_, fun p hp => ?_, a3, fun t h0 h8 => ?_, fun b hb => ?_⟩
  · rw [e _ (by omega)]; exact a0 p hp
  · rw [e _ (by omega)] at hk
    have := a0 p hp
    rw [e _ (by omega)]; exact a1 p hp k hk
  · rw [e _ (by omega), e _ (by omega)]; exact a2 p hp
  · rw [e _ (by omega)]; exact a4 t h0 h8
  · rw [e _ (by omega)]; exact a5 b hb
theorem QR.lo (hQ : WQ g) (e : ∀ k, k < 209 → h k = g k) (H : QR V g) : QR V h := by
  have g0 := w_g0 hQ
  have g1 := w_g1 hQ
  have g2 := w_g2 hQ
  have g3 := w_g3 hQ
  obtain ⟨w0, w1, w2, w3, w4, w5, w6, w7, w8, w9, w10, w11⟩ := H
  unfold QR
  rw [e 0 (by omega), e 1 (by omega), e 2 (by omega), e 3 (by omega), e 4 (by omega)]
  refine ⟨w0, w1, w2, w3, w4, fun i hi => ?_, fun i hi => ?_, fun i hi => ?_, fun i hi => ?_, fun i hi => ?_, fun i hi => ?_, fun i hi => ?_⟩
  · rw [e _ (by omega)]; exact w5 i hi
  · rw [e _ (by omega)]; exact w6 i hi
  · rw [e _ (by omega)]; exact w7 i hi
  · rw [e _ (by omega)]; exact w8 i hi
  · rw [e _ (by omega)]; exact w9 i hi
  · rw [e _ (by omega)]; exact w10 i hi
  · rw [e _ (by omega)]; exact w11 i hi
theorem SR.lo (hQ : WQ g) (hW : WS N g) (e : ∀ k, k < 209 → h k = g k) (H : SR V g) : SR V h := by
  have g1 := w_g1 hQ
  obtain ⟨a0, a1, a2, a3, a4, a5, a6, a7, a8, a9, a10, a11⟩ := H
  unfold SR
  rw [e 1 (by omega), sm185 e, e 121 (by omega), e 122 (by omega), e 123 (by omega), e 124 (by omega)]
  refine ⟨fun p hp k hk => ?_, fun p hp => ?_, fun p hp => ?_, fun t ht => ?_, fun t ht => ?_, fun b hb => ?_, fun b hb => ?_, a7, a8, a9, a10, a11⟩
  · rw [e _ (by omega)] at hk
    have := hW.1 p hp
    rw [e _ (by omega)]; exact a0 p hp k hk
  · rw [e _ (by omega)]; exact a1 p hp
  · rw [e _ (by omega)]; exact a2 p hp
  · rw [e _ (by omega)]; exact a3 t ht
  · rw [e _ (by omega)]; exact a4 t ht
  · rw [e _ (by omega)]; exact a5 b hb
  · rw [e _ (by omega)]; exact a6 b hb
theorem NR.lo (e : ∀ k, k < 209 → h k = g k) (H : NR V M g nn) : NR V M h nn := by
  unfold NR at H ⊢
  rw [e 0 (by omega), e 1 (by omega), e 3 (by omega)]
  exact H
theorem VF.lo {c : Cd} (e : ∀ k, k < 209 → h k = g k) (H : VF g c) : VF h c := by
  unfold VF at H ⊢
  rw [e 1 (by omega)]
  exact H
theorem PR.lo {V5 : Ob} {K : Nat → Ob} (hQ : WQ g) (e : ∀ k, k < 209 → h k = g k) (H : PR N V5 K M g) : PR N V5 K M h := by
  obtain ⟨m, x, a1, a2, a3, a4, a5, a6⟩ := H
  refine ⟨m, x, a1, a2, a3, a4, a5, fun j hj => ?_⟩
  obtain ⟨i, b1, b2, b3, b4, b5⟩ := a6 j hj
  have e2 : ∀ k, k < 209 → (if k < 209 then i k else h k) = i k := fun k hk => if_pos hk
  refine ⟨fun k => if k < 209 then i k else h k, fun k hk => ?_, WS.lo (WQ.of b1 hQ) e2 b2, b3, SR.lo (WQ.of b1 hQ) b2 e2 b4, fun k hk => ?_⟩
  · by_cases c : k < 209
    · show (if k < 209 then i k else h k) = h k
      rw [if_pos c, b1 k hk, e k c]
    · show (if k < 209 then i k else h k) = h k
      rw [if_neg c]
  · show oA M 21 (88 * j + k) = nI (if 121 + k < 209 then i (121 + k) else h (121 + k))
    rw [if_pos (by omega)]; exact b5 k hk
theorem SE.cp {V R : Ob} (hA : AW R) (e : ∀ j, j < 40 → oX R 0 j = oX V 0 j ∧ oA R 1 j = oA V 1 j ∧ oA R 2 j = oA V 2 j) (e3 : oI R 3 = oI V 3) (e4 : oI R 4 = oI V 4) (H : SE V g) : SE R g := by
  obtain ⟨_, ⟨b, c⟩ | ⟨f, s, o, b1, b2, b3, b4, b5, b6, b7, b8, b9, b10⟩⟩ := H
  · exact ⟨hA, Or.inl ⟨b, e4.trans c⟩⟩
  · refine ⟨hA, Or.inr ⟨f, s, o, b1, ⟨e3.trans b2.1, fun i hi => ?_⟩, b3, b4, b5, b6, b7, b8, b9, e4.trans b10⟩⟩
    obtain ⟨x1, x2, x3⟩ := e i (by omega)
    rw [x1, x2, x3]; exact b2.2 i hi
theorem ZF.i {M R : Ob} (H : ZF M R) {k : Nat} (h1 : 23 ≤ k) (h2 : k ≤ 38) : oI R k = oI M k := H.1 k (by omega) (by omega) (by omega) (by omega) (by omega) (by omega) (by omega) (by omega) (by omega) (by omega) (by omega) (by omega) (by omega)
theorem EV_pos {f : Nat → Cd} {s : Nat} (H : EV f 0 s) : 1 ≤ s := by
  cases s with
  | zero =>
    obtain ⟨b, h⟩ := H.2 (fun _ => true) []
    have h : some [] = some [b] := h
    cases h
  | succ s => omega
theorem CG_9 {f : Nat → Cd} {s : Nat} : CG (g9 g s f (3 * s)) f s := by
  refine ⟨?_, fun i hi => ?_⟩
  · unfold g9
    rw [if_neg (by omega), if_pos rfl]
  · unfold g9 c8
    refine ⟨?_, ?_, ?_⟩
    · rw [if_pos (by omega), show 210 + 3 * i - 210 = 3 * i by omega, if_pos (by omega), show 3 * i / 3 = i by omega]
    · rw [if_pos (by omega), show 210 + 3 * i + 1 - 210 = 3 * i + 1 by omega, if_neg (by omega), if_pos (by omega), show (3 * i + 1) / 3 = i by omega]
    · rw [if_pos (by omega), show 210 + 3 * i + 2 - 210 = 3 * i + 2 by omega, if_neg (by omega), if_neg (by omega), show (3 * i + 2) / 3 = i by omega]
theorem g9_lo {f : Nat → Cd} {s : Nat} : ∀ k, k < 209 → g9 g s f (3 * s) k = g k := fun k hk => by
  unfold g9
  rw [if_neg (by omega), if_neg (by omega)]
theorem g9_hi {f : Nat → Cd} {s : Nat} (hs : s ≤ 39) {k : Nat} (hk : 390 ≤ k) : g9 g s f (3 * s) k = g k := by
  unfold g9
  rw [if_neg (by omega), if_neg (by omega)]
end
section
variable {N : Nat} {V0 V1 V2 V3 V4 V5 V8 V9 V10 V12 V13 M O R V1' V12' : Ob} {K IM IQ IS IN : Nat → Ob} {g nn : Nat → Nat}
/-- a text refused -/
theorem REg.parse {v : Int32} (H : REg N V0 V1 V2 V3 V4 V5 V9 V10 V12 K IM IQ IS IN M O g nn) (fI : ∀ k, 23 ≤ k → k ≤ 35 → oI R k = oI M k) (f38 : oI R 38 = oI M 38) (fA : ∀ k, k = 21 ∨ k = 33 ∨ k = 37 ∨ k = 46 ∨ k = 48 → oA R k = oA M k) (f7 : ∃ h, oA R 7 = Nf h) (fJ : ∀ k, k = 10 ∨ k = 47 → oJ R k = oJ M k) (f9 : ∀ j, j < 18 → oJ R 9 j = oJ M 9 j) (h6 : oA R 6 = Nf g) (hT : TA V1' R) (h15 : v = oI R 15) (hA' : AW V12') {V9' : Ob} (hB' : BK V9' R) : RE (N + 360) (sI V0 12 v) V1' V2 V3 V4 V5 V9' V10 V12' K IM IQ IS IN R O := by
  obtain ⟨⟨c1, c2, c3, c4, c5, c6, c7, c8⟩, _, hP, hE, hA, ⟨f1, f2, f3, f4⟩, hB, hG, hC, hI, hO⟩ := H
  refine ⟨g, nn, ⟨c1, c2.mono (by omega), c3, h6, c5, c6, c7.c9 c1 f9, c8⟩, hT, hP.of (by omega) (Sm.refl g) (fI 23 (by omega) (by omega)) (fA 21 (by omega)), hE, hA', ⟨h15, f2.c0 rfl (fI 25 (by omega) (by omega)) (fI 24 (by omega) (by omega)), f3.c0 rfl (fI 30 (by omega) (by omega)) (fI 29 (by omega) (by omega)), f4.c0 rfl (fI 32 (by omega) (by omega)) (fI 31 (by omega) (by omega))⟩, hB', hG.c (fI 34 (by omega) (by omega)) (fA 33 (by omega)), ⟨fun k hk => by rw [fJ 10 (by omega)]; exact hC.1 k hk, f7⟩, fun k hk => (hI k hk).c (by omega) (fA 48 (by omega)) (fA 46 (by omega)) (fJ 47 (by omega)), hO⟩
theorem st_sentence (H : RE N V0 V1 V2 V3 V4 V5 V9 V10 V12 K IM IQ IS IN M O) : ∃ o V0' V12' V1' V4' M', pX10_sentence V0 V12 V1 V2 V4 = some (o, V0', V12', V1', V4') ∧ pX11_sentence M = some (o, M') ∧ RE (N + 360) V0' V1' V2 V3 V4' V5 V9 V10 V12' K IM IQ IS IN M' O := by
  obtain ⟨g, nn, H⟩ := H
  have H0 := H
  obtain ⟨⟨c1, c2, c3, c4, c5, c6, c7, c8⟩, hT, hP, hE, hA, hF, hB, hG, hC, hI, hO⟩ := H
  have g0 := w_g0 c1
  have g1 := w_g1 c1
  have g3 := w_g3 c1
  have c4' : oA (sI M 0 (0 : Int32)) 6 = Nf g := c4
  obtain ⟨tb, z, t1, t2, t3, t4⟩ := id hT
  obtain ⟨S', V', x1, x2, x3⟩ := p_sent t1 t2 t3 t4 ⟨hC.1, c4, c7⟩ c1 c5 hA
  have e9 : oI (sI V' 1 (0 : Int32)) 9 = oI V' 9 := rfl
  have e10 : oI (sI V' 1 (0 : Int32)) 10 = oI V' 10 := rfl
  unfold pX10_sentence
  rw [x1, e_bd, e9, e10, oI_sI, if_pos rfl]
  rcases x3 with ⟨R, f, s, o, y1, y2, y3, y4, y5, y6, y7, y8, y9, y10, y11, y12, y13, y14⟩ | ⟨R, y1, ⟨y2, k, pl, k1, k2, k3, k4, k5, k6, k7⟩, y3, y4⟩
  · obtain ⟨W, w1, w2, w3, w4, w5⟩ := c_scopy (S := V4) x2
    have sp := EV_pos y11
    refine ⟨nI o, sI V0 12 (nI 0), S', sI V' 1 (0 : Int32), W, R, ?_, y1, ?_⟩
    · rw [y3, if_pos l_0.symm, w1, e_bd, w5, y5]
    · have se : SE S' (g9 g s f (3 * s)) := ⟨x2, Or.inr ⟨f, s, o, CG_9, y8, sp, y9, y11, fun i hi => (y12 i hi).lo g9_lo, y13, y6, y7, y5⟩⟩
      refine ⟨g9 g s f (3 * s), nn, ⟨c1.lo g9_lo, (c2.lo c1 g9_lo).mono (by omega), by rw [g9_lo 121 (by omega)]; exact c3, y10, c5.lo c1 g9_lo, c6.lo c1 c2 g9_lo, (c7.c (y14.2.2.2.2 9)).lo g9_lo, fun j hj => (g9_hi y9 hj).trans (c8 j hj)⟩, ⟨tb, 0, ⟨y2.1, y2.2.1, y2.2.2⟩, by omega, rfl, y14.2.2.1⟩, (hP.lo c1 g9_lo).of (by omega) (Sm.refl _) (y14.i (by omega) (by omega)) (y14.2.2.2.1 21 (by omega) (by omega) (by omega)), se.cp w2 w3 w4 w5, x2, ?_, hB.c (y14.i (by omega) (by omega)) (y14.2.2.2.1 37 (by omega) (by omega) (by omega)), hG.c (y14.i (by omega) (by omega)) (y14.2.2.2.1 33 (by omega) (by omega) (by omega)), hC.c (y14.2.2.2.2 10) (y14.2.2.2.1 7 (by omega) (by omega) (by omega)), fun k hk => (hI k hk).c (by omega) (y14.2.2.2.1 48 (by omega) (by omega) (by omega)) (y14.2.2.2.1 46 (by omega) (by omega) (by omega)) (y14.2.2.2.2 47), hO⟩
      obtain ⟨f1, f2, f3, f4⟩ := hF
      exact ⟨y4.symm, f2.c0 rfl (y14.i (by omega) (by omega)) (y14.i (by omega) (by omega)), f3.c0 rfl (y14.i (by omega) (by omega)) (y14.i (by omega) (by omega)), f4.c0 rfl (y14.i (by omega) (by omega)) (y14.i (by omega) (by omega))⟩
  · have nz : ¬ nI k = (0 : Int32) := fun e => by have := (nI_eq (by omega) (by omega)).mp (show nI k = nI 0 from e); omega
    refine ⟨(-1 : Int32) - nI pl, sI V0 12 (nI k), S', sI V' 1 (0 : Int32), V4, R, ?_, by rw [y1, k7], ?_⟩
    · rw [k4, if_neg nz, k6]
    · obtain ⟨h7, e7⟩ := hC.2
      exact H0.parse (V1' := sI V' 1 (0 : Int32)) (fun j j1 j2 => y4.i j1 (by omega)) (y4.i (by omega) (by omega)) (fun j hj => y4.2.2.2.1 j (by omega) (by omega) (by omega)) ⟨h7, (y4.2.2.2.1 7 (by omega) (by omega) (by omega)).trans e7⟩ (fun j _ => y4.2.2.2.2 j) (fun j _ => by rw [y4.2.2.2.2 9]) (y3.trans c4) ⟨tb, 0, ⟨y2.1, y2.2.1, y2.2.2⟩, by omega, rfl, y4.2.2.1⟩ k5.symm x2 (hB.c (y4.i (by omega) (by omega)) (y4.2.2.2.1 37 (by omega) (by omega) (by omega)))
/-! images -/
theorem im_l (a : Nat) (ha : a < 2) (M : Ob) (f : Nat → Int32) : ∀ (n k : Nat), k ≤ 390 → 390 - k < n → pX11_image_l18 (nI a) n (nI k) (sA M 46 (cpn (oA M 6) f (390 * a) 0 k)) = some (sA M 46 (cpn (oA M 6) f (390 * a) 0 390))
  | 0, _, _, h => by omega
  | n + 1, k, h1, h2 => by
    rw [pX11_image_l18]
    by_cases hz : k = 390
    · subst hz; simp (disch := omega) only [l_0, l_1, l_2, l_3, l_4, l_5, l_6, l_7, l_8, l_9, l_10, l_11, l_12, l_13, l_14, l_15, l_16, l_17, l_18, l_19, l_20, l_21, l_22, l_23, l_24, l_25, l_26, l_27, l_28, l_29, l_30, l_31, l_32, l_33, l_34, l_35, l_36, l_40, l_41, l_48, l_56, l_57, l_59, l_60, l_61, l_62, l_63, l_79, l_81, l_88, l_93, l_97, l_99, l_105, l_117, l_121, l_122, l_125, l_127, l_131, l_179, l_185, l_193, l_197, l_200, l_201, l_210, l_255, l_390, l_400, l_616, l_900, l_940, l_999, l_1000, l_1024, e_ltT, e_ltF, e_leT, e_leF, e_eqT, e_eqF, e_cl, e_in, e_gd, e_bd, e_ne, e_en, e_nlt, e_ltn, e_len, e_nle, e_nn, e_z0, e_z1, nI_add, pk_mul, e_sub, Nf_app, e_refl, e_reflN, reduceIte, ite_true_, ite_false_, oA_self]
    · have ih := im_l a ha M f n (k + 1) (by omega) (by omega)
      have e := cpn_s (oA M 6) f (390 * a) 0 k
      rw [Nat.zero_add] at e
      simp (disch := omega) only [l_0, l_1, l_2, l_3, l_4, l_5, l_6, l_7, l_8, l_9, l_10, l_11, l_12, l_13, l_14, l_15, l_16, l_17, l_18, l_19, l_20, l_21, l_22, l_23, l_24, l_25, l_26, l_27, l_28, l_29, l_30, l_31, l_32, l_33, l_34, l_35, l_36, l_40, l_41, l_48, l_56, l_57, l_59, l_60, l_61, l_62, l_63, l_79, l_81, l_88, l_93, l_97, l_99, l_105, l_117, l_121, l_122, l_125, l_127, l_131, l_179, l_185, l_193, l_197, l_200, l_201, l_210, l_255, l_390, l_400, l_616, l_900, l_940, l_999, l_1000, l_1024, e_ltT, e_ltF, e_leT, e_leF, e_eqT, e_eqF, e_cl, e_in, e_gd, e_bd, e_ne, e_en, e_nlt, e_ltn, e_len, e_nle, e_nn, e_z0, e_z1, nI_add, pk_mul, e_sub, Nf_app, e_refl, e_reflN, reduceIte, ite_true_, ite_false_, oI_sI, oI_sL, oI_sW, oI_sA, oI_sJ, oI_sX, oL_sI, oL_sL, oL_sW, oL_sA, oL_sJ, oL_sX, oW_sI, oW_sL, oW_sW, oW_sA, oW_sJ, oW_sX, oA_sI, oA_sL, oA_sW, oA_sA, oA_sJ, oA_sX, oJ_sI, oJ_sL, oJ_sW, oJ_sA, oJ_sJ, oJ_sX, oX_sI, oX_sL, oX_sW, oX_sA, oX_sJ, oX_sX, Nat.reduceEqDiff, n10, n01, sA_sA, e, ih]
theorem im_j (a : Nat) (ha : a < 2) (M : Ob) (f : Nat → Int64) : ∀ (n k : Nat), k ≤ 18 → 18 - k < n → pX11_image_l51 (nI a) n (nI k) (sJ M 47 (cpn (oJ M 9) f (18 * a) 0 k)) = some (sJ M 47 (cpn (oJ M 9) f (18 * a) 0 18))
  | 0, _, _, h => by omega
  | n + 1, k, h1, h2 => by
    rw [pX11_image_l51]
    by_cases hz : k = 18
    · subst hz; simp (disch := omega) only [l_0, l_1, l_2, l_3, l_4, l_5, l_6, l_7, l_8, l_9, l_10, l_11, l_12, l_13, l_14, l_15, l_16, l_17, l_18, l_19, l_20, l_21, l_22, l_23, l_24, l_25, l_26, l_27, l_28, l_29, l_30, l_31, l_32, l_33, l_34, l_35, l_36, l_40, l_41, l_48, l_56, l_57, l_59, l_60, l_61, l_62, l_63, l_79, l_81, l_88, l_93, l_97, l_99, l_105, l_117, l_121, l_122, l_125, l_127, l_131, l_179, l_185, l_193, l_197, l_200, l_201, l_210, l_255, l_390, l_400, l_616, l_900, l_940, l_999, l_1000, l_1024, e_ltT, e_ltF, e_leT, e_leF, e_eqT, e_eqF, e_cl, e_in, e_gd, e_bd, e_ne, e_en, e_nlt, e_ltn, e_len, e_nle, e_nn, e_z0, e_z1, nI_add, pk_mul, e_sub, Nf_app, e_refl, e_reflN, reduceIte, ite_true_, ite_false_, oJ_self]
    · have ih := im_j a ha M f n (k + 1) (by omega) (by omega)
      have e := cpn_s (oJ M 9) f (18 * a) 0 k
      rw [Nat.zero_add] at e
      simp (disch := omega) only [l_0, l_1, l_2, l_3, l_4, l_5, l_6, l_7, l_8, l_9, l_10, l_11, l_12, l_13, l_14, l_15, l_16, l_17, l_18, l_19, l_20, l_21, l_22, l_23, l_24, l_25, l_26, l_27, l_28, l_29, l_30, l_31, l_32, l_33, l_34, l_35, l_36, l_40, l_41, l_48, l_56, l_57, l_59, l_60, l_61, l_62, l_63, l_79, l_81, l_88, l_93, l_97, l_99, l_105, l_117, l_121, l_122, l_125, l_127, l_131, l_179, l_185, l_193, l_197, l_200, l_201, l_210, l_255, l_390, l_400, l_616, l_900, l_940, l_999, l_1000, l_1024, e_ltT, e_ltF, e_leT, e_leF, e_eqT, e_eqF, e_cl, e_in, e_gd, e_bd, e_ne, e_en, e_nlt, e_ltn, e_len, e_nle, e_nn, e_z0, e_z1, nI_add, pk_mul, e_sub, Nf_app, e_refl, e_reflN, reduceIte, ite_true_, ite_false_, oI_sI, oI_sL, oI_sW, oI_sA, oI_sJ, oI_sX, oL_sI, oL_sL, oL_sW, oL_sA, oL_sJ, oL_sX, oW_sI, oW_sL, oW_sW, oW_sA, oW_sJ, oW_sX, oA_sI, oA_sL, oA_sW, oA_sA, oA_sJ, oA_sX, oJ_sI, oJ_sL, oJ_sW, oJ_sA, oJ_sJ, oJ_sX, oX_sI, oX_sL, oX_sW, oX_sA, oX_sJ, oX_sX, Nat.reduceEqDiff, n10, n01, sJ_sJ, e, ih]
theorem re_l (a : Nat) (ha : a < 2) (M : Ob) (f : Nat → Int32) : ∀ (n k : Nat), k ≤ 390 → 390 - k < n → pX11_restore_l27 (nI a) n (nI k) (sA M 6 (cpn (oA M 46) f 0 (390 * a) k)) = some (sA M 6 (cpn (oA M 46) f 0 (390 * a) 390))
  | 0, _, _, h => by omega
  | n + 1, k, h1, h2 => by
    rw [pX11_restore_l27]
    by_cases hz : k = 390
    · subst hz; simp (disch := omega) only [l_0, l_1, l_2, l_3, l_4, l_5, l_6, l_7, l_8, l_9, l_10, l_11, l_12, l_13, l_14, l_15, l_16, l_17, l_18, l_19, l_20, l_21, l_22, l_23, l_24, l_25, l_26, l_27, l_28, l_29, l_30, l_31, l_32, l_33, l_34, l_35, l_36, l_40, l_41, l_48, l_56, l_57, l_59, l_60, l_61, l_62, l_63, l_79, l_81, l_88, l_93, l_97, l_99, l_105, l_117, l_121, l_122, l_125, l_127, l_131, l_179, l_185, l_193, l_197, l_200, l_201, l_210, l_255, l_390, l_400, l_616, l_900, l_940, l_999, l_1000, l_1024, e_ltT, e_ltF, e_leT, e_leF, e_eqT, e_eqF, e_cl, e_in, e_gd, e_bd, e_ne, e_en, e_nlt, e_ltn, e_len, e_nle, e_nn, e_z0, e_z1, nI_add, pk_mul, e_sub, Nf_app, e_refl, e_reflN, reduceIte, ite_true_, ite_false_, oA_self]
    · have ih := re_l a ha M f n (k + 1) (by omega) (by omega)
      have e := cpn_s (oA M 46) f 0 (390 * a) k
      rw [Nat.zero_add] at e
      simp (disch := omega) only [l_0, l_1, l_2, l_3, l_4, l_5, l_6, l_7, l_8, l_9, l_10, l_11, l_12, l_13, l_14, l_15, l_16, l_17, l_18, l_19, l_20, l_21, l_22, l_23, l_24, l_25, l_26, l_27, l_28, l_29, l_30, l_31, l_32, l_33, l_34, l_35, l_36, l_40, l_41, l_48, l_56, l_57, l_59, l_60, l_61, l_62, l_63, l_79, l_81, l_88, l_93, l_97, l_99, l_105, l_117, l_121, l_122, l_125, l_127, l_131, l_179, l_185, l_193, l_197, l_200, l_201, l_210, l_255, l_390, l_400, l_616, l_900, l_940, l_999, l_1000, l_1024, e_ltT, e_ltF, e_leT, e_leF, e_eqT, e_eqF, e_cl, e_in, e_gd, e_bd, e_ne, e_en, e_nlt, e_ltn, e_len, e_nle, e_nn, e_z0, e_z1, nI_add, pk_mul, e_sub, Nf_app, e_refl, e_reflN, reduceIte, ite_true_, ite_false_, oI_sI, oI_sL, oI_sW, oI_sA, oI_sJ, oI_sX, oL_sI, oL_sL, oL_sW, oL_sA, oL_sJ, oL_sX, oW_sI, oW_sL, oW_sW, oW_sA, oW_sJ, oW_sX, oA_sI, oA_sL, oA_sW, oA_sA, oA_sJ, oA_sX, oJ_sI, oJ_sL, oJ_sW, oJ_sA, oJ_sJ, oJ_sX, oX_sI, oX_sL, oX_sW, oX_sA, oX_sJ, oX_sX, Nat.reduceEqDiff, n10, n01, sA_sA, e, ih]
theorem re_j (a : Nat) (ha : a < 2) (M : Ob) (f : Nat → Int64) : ∀ (n k : Nat), k ≤ 18 → 18 - k < n → pX11_restore_l60 (nI a) n (nI k) (sJ M 9 (cpn (oJ M 47) f 0 (18 * a) k)) = some (sJ M 9 (cpn (oJ M 47) f 0 (18 * a) 18))
  | 0, _, _, h => by omega
  | n + 1, k, h1, h2 => by
    rw [pX11_restore_l60]
    by_cases hz : k = 18
    · subst hz; simp (disch := omega) only [l_0, l_1, l_2, l_3, l_4, l_5, l_6, l_7, l_8, l_9, l_10, l_11, l_12, l_13, l_14, l_15, l_16, l_17, l_18, l_19, l_20, l_21, l_22, l_23, l_24, l_25, l_26, l_27, l_28, l_29, l_30, l_31, l_32, l_33, l_34, l_35, l_36, l_40, l_41, l_48, l_56, l_57, l_59, l_60, l_61, l_62, l_63, l_79, l_81, l_88, l_93, l_97, l_99, l_105, l_117, l_121, l_122, l_125, l_127, l_131, l_179, l_185, l_193, l_197, l_200, l_201, l_210, l_255, l_390, l_400, l_616, l_900, l_940, l_999, l_1000, l_1024, e_ltT, e_ltF, e_leT, e_leF, e_eqT, e_eqF, e_cl, e_in, e_gd, e_bd, e_ne, e_en, e_nlt, e_ltn, e_len, e_nle, e_nn, e_z0, e_z1, nI_add, pk_mul, e_sub, Nf_app, e_refl, e_reflN, reduceIte, ite_true_, ite_false_, oJ_self]
    · have ih := re_j a ha M f n (k + 1) (by omega) (by omega)
      have e := cpn_s (oJ M 47) f 0 (18 * a) k
      rw [Nat.zero_add] at e
      simp (disch := omega) only [l_0, l_1, l_2, l_3, l_4, l_5, l_6, l_7, l_8, l_9, l_10, l_11, l_12, l_13, l_14, l_15, l_16, l_17, l_18, l_19, l_20, l_21, l_22, l_23, l_24, l_25, l_26, l_27, l_28, l_29, l_30, l_31, l_32, l_33, l_34, l_35, l_36, l_40, l_41, l_48, l_56, l_57, l_59, l_60, l_61, l_62, l_63, l_79, l_81, l_88, l_93, l_97, l_99, l_105, l_117, l_121, l_122, l_125, l_127, l_131, l_179, l_185, l_193, l_197, l_200, l_201, l_210, l_255, l_390, l_400, l_616, l_900, l_940, l_999, l_1000, l_1024, e_ltT, e_ltF, e_leT, e_leF, e_eqT, e_eqF, e_cl, e_in, e_gd, e_bd, e_ne, e_en, e_nlt, e_ltn, e_len, e_nle, e_nn, e_z0, e_z1, nI_add, pk_mul, e_sub, Nf_app, e_refl, e_reflN, reduceIte, ite_true_, ite_false_, oI_sI, oI_sL, oI_sW, oI_sA, oI_sJ, oI_sX, oL_sI, oL_sL, oL_sW, oL_sA, oL_sJ, oL_sX, oW_sI, oW_sL, oW_sW, oW_sA, oW_sJ, oW_sX, oA_sI, oA_sL, oA_sW, oA_sA, oA_sJ, oA_sX, oJ_sI, oJ_sL, oJ_sW, oJ_sA, oJ_sJ, oJ_sX, oX_sI, oX_sL, oX_sW, oX_sA, oX_sJ, oX_sX, Nat.reduceEqDiff, n10, n01, sJ_sJ, e, ih]
theorem st_image (H : RE N V0 V1 V2 V3 V4 V5 V9 V10 V12 K IM IQ IS IN M O) (a : Int32) : ∃ o IM' IQ' IS' IN' M', pX10_image V0 IM IQ IS IN V2 V3 V4 a = some (o, IM', IQ', IS', IN') ∧ pX11_image M a = some (o, M') ∧ RE (N + 360) V0 V1 V2 V3 V4 V5 V9 V10 V12 K IM' IQ' IS' IN' M' O := by
  obtain ⟨g, nn, H⟩ := H
  have H0 := H
  obtain ⟨⟨c1, c2, c3, c4, c5, c6, c7, c8⟩, hT, hP, hE, hA, hF, hB, hG, hC, hI, hO⟩ := H
  have g0 := w_g0 c1
  have g1 := w_g1 c1
  have g3 := w_g3 c1
  have c4' : oA (sI M 0 (0 : Int32)) 6 = Nf g := c4
  unfold pX10_image pX11_image
  rcases in_c a 0 1 (by omega) (by omega) with ⟨y1, y2⟩ | ⟨y1, y2, y3⟩ | ⟨n, n1, n2, rfl, y1, y2, y3⟩
  · have y2' : pX11_isIn a (0 : Int32) (1 : Int32) = some (nI 0) := y2
    exact ⟨(0 : Int32), IM, IQ, IS, IN, sI M 0 (0 : Int32), by rw [if_pos (show a < 0 from y1)], by rw [y2', e_bd, if_pos l_0.symm], H0.s0 _⟩
  · have y3' : pX11_isIn a (0 : Int32) (1 : Int32) = some (nI 0) := y3
    have z : (2 : Int32) ≤ a := by
      have h1 : ¬ a ≤ nI 1 := y2
      rw [Int32.le_iff_toInt_le, nI_toInt (by omega)] at h1
      show nI 2 ≤ a
      rw [Int32.le_iff_toInt_le, nI_toInt (by omega)]
      omega
    exact ⟨(0 : Int32), IM, IQ, IS, IN, sI M 0 (0 : Int32), by rw [if_neg (show ¬ a < 0 from y1), if_pos z], by rw [y3', e_bd, if_pos l_0.symm], H0.s0 _⟩
  · have y3' : pX11_isIn (nI n) (0 : Int32) (1 : Int32) = some (nI 1) := y3
    have z : ¬ (2 : Int32) ≤ nI n := show ¬ nI 2 ≤ nI n from nI_ge (by omega) (by omega)
    obtain ⟨Q', q1, q2, q3, q4, q5⟩ := c_qcopy (S := IQ n) c1 c5
    obtain ⟨S', s1, s2⟩ := c_copy (S := IS n) c2 c1 c6
    obtain ⟨T', t1, t2, t3, t4, t5⟩ := c_scopy (S := IN n) hE.1
    have l1 := im_l n (by omega) (sI M 0 (0 : Int32)) (oA M 46) fu 0 (by omega) (by rw [fu_eq]; omega)
    rw [cpn_0, show sA (sI M 0 (0 : Int32)) 46 (oA M 46) = sI M 0 (0 : Int32) from sA_self (sI M 0 (0 : Int32)) 46] at l1
    have l1' : pX11_image_l18 (nI n) fu (0 : Int32) (sI M 0 (0 : Int32)) = some (sA (sI M 0 (0 : Int32)) 46 (cpn (oA M 6) (oA M 46) (390 * n) 0 390)) := l1
    have l2 := im_j n (by omega) (sA (sI M 0 (0 : Int32)) 46 (cpn (oA M 6) (oA M 46) (390 * n) 0 390)) (oJ M 47) fu 0 (by omega) (by rw [fu_eq]; omega)
    rw [cpn_0, show sJ (sA (sI M 0 (0 : Int32)) 46 (cpn (oA M 6) (oA M 46) (390 * n) 0 390)) 47 (oJ M 47) = sA (sI M 0 (0 : Int32)) 46 (cpn (oA M 6) (oA M 46) (390 * n) 0 390) from sJ_selfJ (sA (sI M 0 (0 : Int32)) 46 (cpn (oA M 6) (oA M 46) (390 * n) 0 390)) 47] at l2
    have l2' : pX11_image_l51 (nI n) fu (0 : Int32) (sA (sI M 0 (0 : Int32)) 46 (cpn (oA M 6) (oA M 46) (390 * n) 0 390)) = some (sJ (sA (sI M 0 (0 : Int32)) 46 (cpn (oA M 6) (oA M 46) (390 * n) 0 390)) 47 (cpn (oJ M 9) (oJ M 47) (18 * n) 0 18)) := l2
    refine ⟨(1 : Int32), va_up IM n (sI (IM n) 3 (1 : Int32)), va_up IQ n Q', va_up IS n S', va_up IN n T', sA (sJ (sA (sI M 0 (0 : Int32)) 46 (cpn (oA M 6) (oA M 46) (390 * n) 0 390)) 47 (cpn (oJ M 9) (oJ M 47) (18 * n) 0 18)) 48 (va_up (oA M 48) n (1 : Int32)), ?_, ?_, ?_⟩
    · unfold pX1_keep
      rw [if_neg (show ¬ nI n < 0 from y1), if_neg z, e_in (show n < 2 by omega) (by omega), e_gd, e_gd, e_cl (by omega), q1, e_bd, s1, e_bd, t1, e_bd, e_bd]
    · rw [y3', e_bd, if_neg n1_ne, l1', e_bd, l2', e_bd, e_in (show n < 2 by omega) (by omega), e_gd, e_cl (by omega)]
      rfl
    · refine ⟨g, nn, ⟨c1, c2.mono (by omega), c3, c4, c5, c6, c7, c8⟩, hT, hP.of (by omega) (Sm.refl g) rfl rfl, hE, hA, hF, hB, hG, hC, fun k hk => ?_, hO⟩
      by_cases e : k = n
      · subst e
        rw [uv_eq rfl, uv_eq rfl, uv_eq rfl, uv_eq rfl]
        refine ⟨t2, Or.inr ⟨uv_eq rfl, rfl, g, nn, c1, c2.mono (by omega), c3, q2, s2, hE.cp t2 t3 t4 t5, c8, fun j hj => ?_, ?_⟩⟩
        · show cpn (oA M 6) (oA M 46) (390 * k) 0 390 (390 * k + j) = nI (g j)
          rw [cpn_in (by omega) (by omega), Nat.zero_add, Nat.add_sub_cancel_left, c4, Nf_app]
        · refine (NR.cv c1 q3 q4 q5 c7).c9 c1 (fun j hj => ?_)
          show cpn (oJ M 9) (oJ M 47) (18 * k) 0 18 (18 * k + j) = oJ M 9 j
          rw [cpn_in (by omega) (by omega), Nat.zero_add, Nat.add_sub_cancel_left]
      · rw [uv_ne e, uv_ne e, uv_ne e, uv_ne e]
        obtain ⟨i1, ⟨i2, i3⟩ | ⟨i2, i3, g', nn', j1, j2, j3, j4, j5, j6, j7, j8, j9⟩⟩ := hI k hk
        · refine ⟨i1, Or.inl ⟨?_, i3⟩⟩
          show va_up (oA M 48) n (1 : Int32) k = nI 0
          rw [uv_ne e]; exact i2
        · refine ⟨i1, Or.inr ⟨?_, i3, g', nn', j1, j2.mono (by omega), j3, j4, j5, j6, j7, fun j hj => ?_, ?_⟩⟩
          · show va_up (oA M 48) n (1 : Int32) k = nI 1
            rw [uv_ne e]; exact i2
          · show cpn (oA M 6) (oA M 46) (390 * n) 0 390 (390 * k + j) = nI (g' j)
            rw [cpn_out (by omega)]; exact j8 j hj
          · refine j9.c9 j1 (fun j hj => ?_)
            show cpn (oJ M 9) (oJ M 47) (18 * n) 0 18 (18 * k + j) = oJ M 47 (18 * k + j)
            rw [cpn_out (by omega)]
theorem st_restore (H : RE N V0 V1 V2 V3 V4 V5 V9 V10 V12 K IM IQ IS IN M O) (a : Int32) : ∃ o V2' V3' V4' V5' M', pX10_restore V0 IM IQ IS IN V2 V3 V4 V5 a = some (o, V2', V3', V4', V5') ∧ pX11_restore M a = some (o, M') ∧ RE (N + 360) V0 V1 V2' V3' V4' V5' V9 V10 V12 K IM IQ IS IN M' O := by
  obtain ⟨g, nn, H⟩ := H
  have H0 := H
  obtain ⟨⟨c1, c2, c3, c4, c5, c6, c7, c8⟩, hT, hP, hE, hA, hF, hB, hG, hC, hI, hO⟩ := H
  have g0 := w_g0 c1
  have g1 := w_g1 c1
  have g3 := w_g3 c1
  have c4' : oA (sI M 0 (0 : Int32)) 6 = Nf g := c4
  unfold pX10_restore pX11_restore
  rcases in_c a 0 1 (by omega) (by omega) with ⟨y1, y2⟩ | ⟨y1, y2, y3⟩ | ⟨n, n1, n2, rfl, y1, y2, y3⟩
  · have y2' : pX11_isIn a (0 : Int32) (1 : Int32) = some (nI 0) := y2
    exact ⟨(0 : Int32), V2, V3, V4, V5, sI M 0 (0 : Int32), by rw [if_pos (show a < 0 from y1)], by rw [y2', e_bd, if_pos l_0.symm], H0.s0 _⟩
  · have y3' : pX11_isIn a (0 : Int32) (1 : Int32) = some (nI 0) := y3
    have z : (2 : Int32) ≤ a := by
      have h1 : ¬ a ≤ nI 1 := y2
      rw [Int32.le_iff_toInt_le, nI_toInt (by omega)] at h1
      show nI 2 ≤ a
      rw [Int32.le_iff_toInt_le, nI_toInt (by omega)]
      omega
    exact ⟨(0 : Int32), V2, V3, V4, V5, sI M 0 (0 : Int32), by rw [if_neg (show ¬ a < 0 from y1), if_pos z], by rw [y3', e_bd, if_pos l_0.symm], H0.s0 _⟩
  · have y3' : pX11_isIn (nI n) (0 : Int32) (1 : Int32) = some (nI 1) := y3
    have z : ¬ (2 : Int32) ≤ nI n := show ¬ nI 2 ≤ nI n from nI_ge (by omega) (by omega)
    have e48 : oA (sI M 0 (0 : Int32)) 48 (nI n).toNatClampNeg = oA M 48 n := by rw [e_cl (by omega)]; rfl
    rw [if_neg (show ¬ nI n < 0 from y1), if_neg z, e_in (show n < 2 by omega) (by omega), e_gd, e_gd, e_cl (by omega), e_gd, y3', e_bd, if_neg n1_ne, e_gd, oA_sI]
    obtain ⟨i1, ⟨i2, i3⟩ | ⟨i2, i3, g', nn', j1, j2, j3, j4, j5, j6, j7, j8, j9⟩⟩ := hI n (by omega)
    · exact ⟨(0 : Int32), V2, V3, V4, V5, sI M 0 (0 : Int32), by rw [i3, if_pos l_0.symm], by rw [i2, if_pos l_0.symm], H0.s0 _⟩
    · obtain ⟨Q', q1, q2, q3, q4, q5⟩ := c_qcopy (S := V2) j1 j4
      obtain ⟨S', s1, s2⟩ := c_copy (S := V3) j2 j1 j5
      obtain ⟨T', t1, t2, t3, t4, t5⟩ := c_scopy (S := V4) i1
      have l1 := re_l n (by omega) (sI M 0 (0 : Int32)) (oA M 6) fu 0 (by omega) (by rw [fu_eq]; omega)
      rw [cpn_0, show sA (sI M 0 (0 : Int32)) 6 (oA M 6) = sI M 0 (0 : Int32) from sA_self (sI M 0 (0 : Int32)) 6] at l1
      have row : cpn (oA M 46) (oA M 6) 0 (390 * n) 390 = Nf g' := funext fun k => by
        by_cases d : k < 390
        · rw [cpn_in (by omega) (by omega), Nat.sub_zero, j8 k d, Nf_app]
        · rw [cpn_out (by omega), c4, Nf_app, Nf_app, c8 k (by omega), j7 k (by omega)]
      have l1' : pX11_restore_l27 (nI n) fu (0 : Int32) (sI M 0 (0 : Int32)) = some (sA (sI M 0 (0 : Int32)) 6 (Nf g')) := by
        rw [← row]; exact l1
      have l2 := re_j n (by omega) (sA (sI M 0 (0 : Int32)) 6 (Nf g')) (oJ M 9) fu 0 (by omega) (by rw [fu_eq]; omega)
      rw [cpn_0, show sJ (sA (sI M 0 (0 : Int32)) 6 (Nf g')) 9 (oJ M 9) = sA (sI M 0 (0 : Int32)) 6 (Nf g') from sJ_selfJ (sA (sI M 0 (0 : Int32)) 6 (Nf g')) 9] at l2
      have l2' : pX11_restore_l60 (nI n) fu (0 : Int32) (sA (sI M 0 (0 : Int32)) 6 (Nf g')) = some (sJ (sA (sI M 0 (0 : Int32)) 6 (Nf g')) 9 (cpn (oJ M 47) (oJ M 9) 0 (18 * n) 18)) := l2
      obtain ⟨m, x, p1, p2, p3, p4, p5, p6⟩ := hP
      refine ⟨(1 : Int32), Q', S', T', sI V5 2 (0 : Int32), sI (sJ (sA (sI M 0 (0 : Int32)) 6 (Nf g')) 9 (cpn (oJ M 47) (oJ M 9) 0 (18 * n) 18)) 23 (0 : Int32), ?_, ?_, ?_⟩
      · unfold pX1_bringBack pX2_forget
        rw [i3, if_neg n1_ne, q1, e_bd, s1, e_bd, t1, e_bd, e_bd, e_bd]
      · rw [i2, if_neg n1_ne, l1', e_bd, l2', e_bd]
      · refine ⟨g', nn', ⟨j1, j2.mono (by omega), j3, rfl, q2, s2, ?_, j7⟩, hT, ⟨0, x, by omega, p2, rfl, rfl, p5, fun j hj => by omega⟩, j6.cp t2 t3 t4 t5, hA, hF, hB, hG, hC, fun k hk => (hI k hk).c (by omega) rfl rfl rfl, hO⟩
        refine (NR.cv j1 q3 q4 q5 j9).c9 j1 (fun j hj => ?_)
        show cpn (oJ M 47) (oJ M 9) 0 (18 * n) 18 j = oJ M 47 (18 * n + j)
        rw [cpn_in (by omega) (by omega), Nat.sub_zero]
end
