/-! the tape, a tag, and whose hair it is -/
def bt (x : Int32) (i : Nat) : Bool := x.toBitVec.getLsbD i
theorem b_ext {x y : Int32} (h : ∀ i, i < 32 → bt x i = bt y i) : x = y := Int32.toBitVec_inj.mp (BitVec.eq_of_getLsbD_eq (fun i hi => h i hi))
theorem b_and (x y : Int32) (i : Nat) : bt (x &&& y) i = (bt x i && bt y i) := by unfold bt; rw [Int32.toBitVec_and, BitVec.getLsbD_and]
theorem b_big {x : Int32} {i : Nat} (h : 32 ≤ i) : bt x i = false := BitVec.getLsbD_of_ge _ _ h
theorem b_255 (i : Nat) : bt 255 i = decide (i < 8) := by
  rcases Nat.lt_or_ge i 32 with h | h
  · exact (by decide +kernel : ∀ i, i < 32 → bt 255 i = decide (i < 8)) i h
  · rw [b_big h, decide_eq_false (by omega)]
theorem s_l : ∀ n, n < 32 → ((nI n &&& 31).toBitVec.smod 32).toNat = n := by decide +kernel
theorem s_u : ∀ n, n < 32 → (((nI n).toUInt32 &&& Int32.toUInt32 31).toBitVec % 32).toNat = n := by decide +kernel
theorem b_ushr (n : Nat) (hn : n < 32) (x : Int32) (i : Nat) : bt ((x.toUInt32 >>> ((nI n).toUInt32 &&& Int32.toUInt32 31)).toInt32) i = bt x (n + i) := by
  show (x.toUInt32 >>> ((nI n).toUInt32 &&& Int32.toUInt32 31)).toBitVec.getLsbD i = x.toUInt32.toBitVec.getLsbD (n + i)
  rw [UInt32.toBitVec_shiftRight]
  show (x.toUInt32.toBitVec >>> (((nI n).toUInt32 &&& Int32.toUInt32 31).toBitVec % 32).toNat).getLsbD i = _
  rw [s_u n hn, BitVec.getLsbD_ushiftRight]
theorem b_sshr (n : Nat) (hn : n < 32) (x : Int32) {i : Nat} (hi : i < 32) : bt (x >>> (nI n &&& 31)) i = if n + i < 32 then bt x (n + i) else bt x 31 := by
  unfold bt
  rw [Int32.toBitVec_shiftRight]
  show (x.toBitVec.sshiftRight ((nI n &&& 31).toBitVec.smod 32).toNat).getLsbD i = _
  rw [s_l n hn, BitVec.getLsbD_sshiftRight, BitVec.msb_eq_getLsbD_last]
  simp [hi]
theorem bp_b (x : Int32) : x.toInt8.toInt32 &&& 255 = x &&& 255 := by
  apply Int32.toBitVec_inj.mp
  rw [Int32.toBitVec_and, Int32.toBitVec_and, Int8.toBitVec_toInt32, Int32.toBitVec_toInt8]
  apply BitVec.eq_of_getLsbD_eq
  intro i hi
  rw [BitVec.getLsbD_and, BitVec.getLsbD_and]
  have hm : ∀ i < 32, 8 ≤ i → (255 : Int32).toBitVec.getLsbD i = false := by decide
  rcases Nat.lt_or_ge i 8 with z | z
  · rw [BitVec.getLsbD_signExtend, BitVec.getLsbD_signExtend, if_pos z, if_pos hi]
    simp only [z, hi, decide_true, Bool.true_and]
  · rw [hm i hi z]; simp
theorem wb_of32 (x : Int32) : ∃ n, n < 2 ^ 32 ∧ x = nI n := ⟨x.toBitVec.toNat, x.toBitVec.isLt, Int32.toBitVec_inj.mp (by show _ = BitVec.ofNat 32 _; simp)⟩
theorem nx_and (a b : Nat) : nI a &&& nI b = nI (a &&& b) := by
  apply Int32.toBitVec_inj.1
  show BitVec.ofNat 32 a &&& BitVec.ofNat 32 b = BitVec.ofNat 32 (a &&& b)
  apply BitVec.eq_of_getLsbD_eq
  intro i hi
  simp [hi]
theorem byt (x : Int32) (k : Nat) (hk : k ≤ 24) : (x >>> (nI k &&& 31)) &&& 255 = (ushr32 x (nI k)) &&& 255 := b_ext fun i hi => by
  rw [b_and, b_and, b_255]
  unfold ushr32
  rw [b_ushr k (by omega), b_sshr k (by omega) x hi]
  by_cases c : i < 8
  · rw [if_pos (by omega)]
  · rw [decide_eq_false c, Bool.and_false, Bool.and_false]
theorem byt2 (x : Int32) : ∃ b, b < 256 ∧ x &&& 255 = nI b := by
  obtain ⟨n, hn, rfl⟩ := wb_of32 x
  refine ⟨n % 256, Nat.mod_lt _ (by omega), ?_⟩
  rw [show (255 : Int32) = nI 255 from rfl, nx_and]
  congr 1
  exact Nat.and_two_pow_sub_one_eq_mod n 8
def FF (M M' : Ob) : Prop := (∀ k, k ≠ 2 → oI M' k = oI M k) ∧ (∀ k, k ≠ 1 → oA M' k = oA M k) ∧ ∀ k, oJ M' k = oJ M k
theorem put_l (a : Int32) : ∀ (n j : Nat) {V M : Ob} {tb : Nat → Nat} {z : Nat}, j ≤ 4 → j < n → TB V M tb → z + j ≤ 940 → oI V 1 = nI z → oI M 2 = nI z → ∃ V' M' tb', pX8_putNumber_l3 a n (sh j) V = some V' ∧ pX11_four_l3 a n (sh j) M = some M' ∧ TB V' M' tb' ∧ oI V' 1 = nI (z + j) ∧ oI M' 2 = nI (z + j) ∧ FF M M'
  | 0, j, _, _, _, _, _, h, _, _, _, _ => by omega
  | n + 1, 0, V, M, tb, z, h1, h2, hT, hz, e1, e2 => by
    have s0 : sh 0 < (0 : Int32) := by decide
    refine ⟨V, M, tb, ?_, ?_, hT, e1, e2, fun _ _ => rfl, fun _ _ => rfl, fun _ => rfl⟩
    · rw [pX8_putNumber_l3, if_pos s0]
    · rw [pX11_four_l3, if_pos s0]
  | n + 1, j + 1, V, M, tb, z, h1, h2, hT, hz, e1, e2 => by
    have sp : ¬ sh (j + 1) < (0 : Int32) := by
      have := sh_p j (by omega)
      intro h
      exact this.mp h
    have ml : sh (j + 1) + (-8 : Int32) = sh j := l_m8 j (by omega)
    have by1 := byt a (8 * j) (by omega)
    obtain ⟨b, b1, b2⟩ := byt2 (ushr32 a (nI (8 * j)))
    have by2 : (((a >>> (nI (8 * j) &&& 31)).toInt8.toInt32).toInt8.toInt32) &&& nI 255 = nI b := by
      have h1 := bp_b ((a >>> (nI (8 * j) &&& 31)).toInt8.toInt32)
      have h2 := bp_b (a >>> (nI (8 * j) &&& 31))
      exact (h1.trans h2).trans (by1.trans b2)
    obtain ⟨V', M', tb', x1, x2, x3, x4, x5, x6⟩ := put_l a n j (V := sI (sA V 0 (va_up (oA V 0) z (nI b))) 1 (nI (z + 1))) (M := sI (sA M 1 (va_up (oA M 1) z (((a >>> (nI (8 * j) &&& 31)).toInt8.toInt32).toInt8.toInt32))) 2 (nI (z + 1))) (tb := va_up tb z b) (z := z + 1) (by omega) (by omega) (by
      refine ⟨fun i => ?_, fun i => ?_, fun i => ?_⟩
      · show va_up (oA V 0) z (nI b) i = nI (va_up tb z b i)
        by_cases e : i = z
        · rw [uv_eq e, uv_eq e]
        · rw [uv_ne e, uv_ne e]; exact hT.1 i
      · show va_up (oA M 1) z _ i &&& nI 255 = nI (va_up tb z b i)
        by_cases e : i = z
        · rw [uv_eq e, uv_eq e]; exact by2
        · rw [uv_ne e, uv_ne e]; exact hT.2.1 i
      · by_cases e : i = z
        · rw [uv_eq e]; exact b1
        · rw [uv_ne e]; exact hT.2.2 i) (by omega) rfl rfl
    refine ⟨V', M', tb', ?_, ?_, x3, by rw [x4, show z + 1 + j = z + (j + 1) by omega], by rw [x5, show z + 1 + j = z + (j + 1) by omega], fun k hk => (x6.1 k hk).trans ?_, fun k hk => (x6.2.1 k hk).trans ?_, fun k => x6.2.2 k⟩
    · have nz : ¬ (940 : Int32) ≤ nI z := show ¬ nI 940 ≤ nI z from nI_ge (by omega) (by omega)
      rw [pX8_putNumber_l3, if_neg sp, e1, if_neg nz, e_in (show z < 940 by omega) (by omega), e_gd, e_cl (by omega), ml, sh_s, b2, oI_sA, e1, l_1, nI_add]
      exact x1
    · rw [pX11_four_l3, if_neg sp, e2, e_in (show z < 940 by omega) (by omega), e_gd, e_cl (by omega), ml, sh_s, oI_sA, e2, l_1, nI_add]
      exact x2
    · rw [oI_sI, if_neg hk, oI_sA]
    · rw [oA_sI, oA_sA, if_neg hk]
theorem put4 (a : Int32) {V M : Ob} {tb : Nat → Nat} {z : Nat} (hT : TB V M tb) (hz : z + 4 ≤ 940) (e1 : oI V 1 = nI z) (e2 : oI M 2 = nI z) : ∃ V' M' tb', pX8_putNumber V a = some V' ∧ pX11_four M a = some M' ∧ TB V' M' tb' ∧ oI V' 1 = nI (z + 4) ∧ oI M' 2 = nI (z + 4) ∧ FF M M' := by
  obtain ⟨V', M', tb', x1, x2, x3⟩ := put_l a fu 4 (by omega) (by rw [fu_eq]; omega) hT hz e1 e2
  have x1' : pX8_putNumber_l3 a fu (24 : Int32) V = some V' := x1
  have x2' : pX11_four_l3 a fu (24 : Int32) M = some M' := x2
  refine ⟨V', M', tb', ?_, ?_, x3⟩
  · unfold pX8_putNumber; rw [x1', e_bd]
  · unfold pX11_four; rw [x2', e_bd]
theorem FF.trans {M M1 M2 : Ob} (a : FF M M1) (b : FF M1 M2) : FF M M2 := ⟨fun k hk => (b.1 k hk).trans (a.1 k hk), fun k hk => (b.2.1 k hk).trans (a.2.1 k hk), fun k => (b.2.2 k).trans (a.2.2 k)⟩
section
variable {N : Nat} {V0 V1 V2 V3 V4 V5 V8 V9 V10 V12 V13 M O : Ob} {K IM IQ IS IN : Nat → Ob}
/-- another tape -/
theorem st_tape {V1' M' : Ob} {g nn : Nat → Nat} (H : REg N V0 V1 V2 V3 V4 V5 V9 V10 V12 K IM IQ IS IN M O g nn) (hF : FF (sI M 0 (0 : Int32)) M') (hT : TA V1' M') : RE (N + 360) V0 V1' V2 V3 V4 V5 V9 V10 V12 K IM IQ IS IN M' O := by
  obtain ⟨⟨c1, c2, c3, c4, c5, c6, c7, c8⟩, _, hP, hE, hA, ⟨f1, f2, f3, f4⟩, hB, hG, hC, hI, hO⟩ := H
  obtain ⟨a, b, c⟩ := hF
  refine ⟨g, nn, ⟨c1, c2.mono (by omega), c3, (b 6 (by omega)).trans c4, c5, c6, c7.c (c 9), c8⟩, hT, hP.of (by omega) (Sm.refl g) (a 23 (by omega)) (b 21 (by omega)), hE, hA, ⟨f1.trans (a 15 (by omega)).symm, f2.c (a 25 (by omega)) (a 24 (by omega)), f3.c (a 30 (by omega)) (a 29 (by omega)), f4.c (a 32 (by omega)) (a 31 (by omega))⟩, hB.c (a 38 (by omega)) (b 37 (by omega)), hG.c (a 34 (by omega)) (b 33 (by omega)), hC.c (c 10) (b 7 (by omega)), fun k hk => (hI k hk).c (by omega) (b 48 (by omega)) (b 46 (by omega)) (c 47), hO⟩
theorem st_feed (H : RE N V0 V1 V2 V3 V4 V5 V9 V10 V12 K IM IQ IS IN M O) (a b c d e : Int32) : ∃ o V1' M', pX10_feed V0 V1 a b c d e = some (o, V1') ∧ pX11_feed M a b c d e = some (o, M') ∧ RE (N + 360) V0 V1' V2 V3 V4 V5 V9 V10 V12 K IM IQ IS IN M' O := by
  obtain ⟨g, nn, H⟩ := H
  have H0 := H
  obtain ⟨⟨c1, c2, c3, c4, c5, c6, c7, c8⟩, hT, hP, hE, hA, hF, hB, hG, hC, hI, hO⟩ := H
  have g0 := w_g0 c1
  have g1 := w_g1 c1
  have g3 := w_g3 c1
  have c4' : oA (sI M 0 (0 : Int32)) 6 = Nf g := c4
  obtain ⟨tb, z, t1, t2, t3, t4⟩ := id hT
  have t4' : oI (sI M 0 (0 : Int32)) 2 = nI z := t4
  unfold pX10_feed pX11_feed
  rw [t3, t4', show (20 : Int32) = nI 20 from rfl, nI_add]
  by_cases cz : z + 20 ≤ 940
  · have p : nI (z + 20) ≤ (940 : Int32) := show nI (z + 20) ≤ nI 940 from nI_le cz (by omega)
    obtain ⟨A1, B1, u1, x1, y1, z1, v1, w1, h1⟩ := put4 a (t1.c (M' := sI M 0 (0 : Int32)) rfl) (by omega) t3 t4'
    obtain ⟨A2, B2, u2, x2, y2, z2, v2, w2, h2⟩ := put4 b z1 (by omega) v1 w1
    obtain ⟨A3, B3, u3, x3, y3, z3, v3, w3, h3⟩ := put4 c z2 (by omega) v2 w2
    obtain ⟨A4, B4, u4, x4, y4, z4, v4, w4, h4⟩ := put4 d z3 (by omega) v3 w3
    obtain ⟨A5, B5, u5, x5, y5, z5, v5, w5, h5⟩ := put4 e z4 (by omega) v4 w4
    refine ⟨nI (z + 4 + 4 + 4 + 4 + 4), A5, B5, ?_, ?_, ?_⟩
    · rw [if_pos p, x1, e_bd, x2, e_bd, x3, e_bd, x4, e_bd, x5, e_bd, v5]
    · rw [if_pos p, y1, e_bd, y2, e_bd, y3, e_bd, y4, e_bd, y5, e_bd, w5]
    · exact st_tape H0 ((((h1.trans h2).trans h3).trans h4).trans h5) ⟨u5, z + 4 + 4 + 4 + 4 + 4, z5, by omega, v5, w5⟩
  · have p : ¬ nI (z + 20) ≤ (940 : Int32) := show ¬ nI (z + 20) ≤ nI 940 from nI_ge (by omega) (by omega)
    exact ⟨(-1 : Int32), V1, sI M 0 (0 : Int32), by rw [if_neg p], by rw [if_neg p], H0.s0 _⟩
theorem st_end (H : RE N V0 V1 V2 V3 V4 V5 V9 V10 V12 K IM IQ IS IN M O) (a : Int32) : ∃ o V1' M', pX10_end V0 V1 a = some (o, V1') ∧ pX11_end M a = some (o, M') ∧ RE (N + 360) V0 V1' V2 V3 V4 V5 V9 V10 V12 K IM IQ IS IN M' O := by
  obtain ⟨g, nn, H⟩ := H
  have H0 := H
  obtain ⟨⟨c1, c2, c3, c4, c5, c6, c7, c8⟩, hT, hP, hE, hA, hF, hB, hG, hC, hI, hO⟩ := H
  have g0 := w_g0 c1
  have g1 := w_g1 c1
  have g3 := w_g3 c1
  have c4' : oA (sI M 0 (0 : Int32)) 6 = Nf g := c4
  obtain ⟨tb, z, t1, t2, t3, t4⟩ := id hT
  have t4' : oI (sI M 0 (0 : Int32)) 2 = nI z := t4
  unfold pX10_end pX11_end
  rw [t3, t4']
  by_cases a0 : a < 0
  · exact ⟨(0 : Int32), V1, sI M 0 (0 : Int32), by rw [if_pos a0], by rw [if_pos a0], H0.s0 _⟩
  · by_cases az : a ≤ nI z
    · rcases i_cases a (z + 1) (by omega) with h | ⟨_, h⟩ | ⟨j, j1, rfl⟩
      · exact absurd h a0
      · rw [Int32.le_iff_toInt_le, nI_toInt (by omega)] at h
        rw [Int32.le_iff_toInt_le, nI_toInt (by omega)] at az
        omega
      · refine ⟨(1 : Int32), sI V1 1 (nI j), sI (sI M 0 (0 : Int32)) 2 (nI j), by rw [if_neg a0, if_pos az], by rw [if_neg a0, if_pos az], ?_⟩
        exact st_tape H0 ⟨fun k hk => by rw [oI_sI, if_neg hk], fun _ _ => rfl, fun _ => rfl⟩ ⟨tb, j, ⟨t1.1, t1.2.1, t1.2.2⟩, by omega, rfl, rfl⟩
    · exact ⟨(0 : Int32), V1, sI M 0 (0 : Int32), by rw [if_neg a0, if_neg az], by rw [if_neg a0, if_neg az], H0.s0 _⟩
theorem wr_le {g nn : Nat → Nat} {q : Nat} (hl : g (125 + q) ≤ 8) : ∀ (j k : Nat) (s : (Nat → Nat) × Nat), k ≤ g (125 + q) → s.2 ≤ 7 + 9 * k → (wr g nn q j k s).2 ≤ 79
  | 0, k, s, h1, h2 => by show s.2 ≤ 79; omega
  | j + 1, k, s, h1, h2 => by
    rw [wr]
    split
    · next c =>
      have r1 := ru_le (hr g q) (hr g q k) (g (125 + q) - k) k
      have r2 : 1 ≤ ru (hr g q) (hr g q k) (g (125 + q) - k) k := by
        obtain ⟨i, hi⟩ : ∃ i, g (125 + q) - k = i + 1 := ⟨g (125 + q) - k - 1, by omega⟩
        rw [hi, ru, if_pos rfl]; omega
      have r3 := kt_le nn s (hr g q k) (ru (hr g q) (hr g q k) (g (125 + q) - k) k)
      exact wr_le hl j _ _ (by omega) (by omega)
    · omega
theorem st_tag (H : RE N V0 V1 V2 V3 V4 V5 V9 V10 V12 K IM IQ IS IN M O) (a : Int32) : ∃ o V10' M', pX10_tag V0 V2 V10 V3 a = some (o, V10') ∧ pX11_tag M a = some (o, M') ∧ RE (N + 360) V0 V1 V2 V3 V4 V5 V9 V10' V12 K IM IQ IS IN M' O := by
  obtain ⟨g, nn, H⟩ := H
  have H0 := H
  obtain ⟨⟨c1, c2, c3, c4, c5, c6, c7, c8⟩, hT, hP, hE, hA, hF, hB, hG, hC, hI, hO⟩ := H
  have g0 := w_g0 c1
  have g1 := w_g1 c1
  have g3 := w_g3 c1
  have c4' : oA (sI M 0 (0 : Int32)) 6 = Nf g := c4
  unfold pX10_tag pX11_tag
  rcases p_isP (V0 := V0) c1 c5 c4' a with ⟨x1, x2⟩ | ⟨q, hq, rfl, x1, x2⟩
  · exact ⟨(-1 : Int32), V10, sI M 0 (0 : Int32), by rw [x1, e_bd, if_pos l_0.symm], by rw [x2, e_bd, if_pos l_0.symm], H0.s0 _⟩
  · have q6 : q < 6 := by omega
    have hL := w_long c2 q6
    obtain ⟨na, nb, _⟩ := id c7
    obtain ⟨b1, b2, b3⟩ := nb q hq
    have fin : ∀ {s : (Nat → Nat) × Nat} {W M' : Ob}, s.2 ≤ 79 → TC W s → TM (sI M 0 (0 : Int32)) M' s → oI W 1 = nI s.2 ∧ oI M' 34 = nI s.2 ∧ RE (N + 360) V0 V1 V2 V3 V4 V5 V9 W V12 K IM IQ IS IN M' O := fun {s W M'} h1 h2 h3 => by
      obtain ⟨X, e, hX⟩ := h3
      subst e
      refine ⟨h2.1, rfl, g, nn, ⟨c1, c2.mono (by omega), c3, c4, c5, c6, c7, c8⟩, hT, hP.of (by omega) (Sm.refl g) rfl rfl, hE, hA, hF, hB, ⟨s, h1, h2, rfl, hX⟩, hC, fun k hk => (hI k hk).c (by omega) rfl rfl rfl, hO⟩
    obtain ⟨W1, w1, w2⟩ := c_name b3 (W := sI V10 1 (0 : Int32)) (s := (fun _ => 0, 0)) ⟨rfl, fun i hi => absurd hi (Nat.not_lt_zero i)⟩ (by show 0 + 7 ≤ 79; omega)
    obtain ⟨M1, m1, m2⟩ := r_name (M := sI M 0 (0 : Int32)) (M1 := sI (sI M 0 (0 : Int32)) 34 (0 : Int32)) b3 (s := (fun _ => 0, 0)) ⟨oA M 33, by rw [show sA (sI M 0 (0 : Int32)) 33 (oA M 33) = sI M 0 (0 : Int32) from sA_self (sI M 0 (0 : Int32)) 33]; rfl, fun i hi => absurd hi (Nat.not_lt_zero i)⟩ (by show 0 + 8 ≤ 88; omega)
    have s7 := pn_le (nn (8 + q)) 7 (fun _ => 0, 0)
    have s7 : (pn (nn (8 + q)) 7 (fun _ => 0, 0)).2 ≤ 0 + 7 := s7
    generalize pn (nn (8 + q)) 7 (fun _ => 0, 0) = s at w2 m2 s7
    have j9 : oJ (sI (sI M 0 (0 : Int32)) 34 (0 : Int32)) 9 ((8 : Int32) + nI q).toNatClampNeg = lN (nn (8 + q)) := by
      rw [l_8, nI_add, e_cl (by omega)]; exact b2
    have i8 : inB ((8 : Int32) + nI q) 36 = true := by rw [l_8, nI_add]; exact e_in (by omega) (by omega)
    have i1 : inB ((125 : Int32) + nI q) 390 = true := by rw [l_125, nI_add]; exact e_in (by omega) (by omega)
    have e1 : oA M1 6 ((125 : Int32) + nI q).toNatClampNeg = nI (g (125 + q)) := by rw [l_125, nI_add, e_cl (by omega), m2.o6, c4', Nf_app]
    have s1 := s_1 c6 q q6
    unfold pX7_write
    rw [x1, x2, e_bd, e_bd, if_neg n1_ne, if_neg n1_ne, e_in q6 (by omega), e_gd, e_cl (by omega), b1, w1, e_bd, e_gd, s1, i8, e_gd, j9, m1, e_bd, i1, e_gd, e1]
    by_cases cz : g (125 + q) = 0
    · have wk : wok (wcN 14) := ⟨(wcA 14 (by omega)).2, by decide +kernel⟩
      obtain ⟨W2, w3, w4⟩ := c_tput (c := 32) w2 (by omega)
      obtain ⟨W3, w5, w6⟩ := c_name wk w4 (by show s.2 + 1 + 7 ≤ 79; omega)
      obtain ⟨M3, m5, m6⟩ := r_says wk m2 (by omega)
      have s8 := pn_le (wcN 14) 7 (tp s 32)
      have s8 : (pn (wcN 14) 7 (tp s 32)).2 ≤ s.2 + 1 + 7 := s8
      obtain ⟨y1, y2, y3⟩ := fin (by omega) w6 m6
      refine ⟨nI (pn (wcN 14) 7 (tp s 32)).2, W3, M3, ?_, ?_, y3⟩
      · rw [cz, if_pos l_0.symm, show (32 : Int32) = nI 32 from rfl, w3, e_bd, (wcA 14 (by omega)).1, w5, e_bd]
        unfold pX7_write_j40
        rw [show fu = 99999 + 1 from rfl, pX7_write_l46, e_in q6 (by omega), e_gd, e_cl (by omega), s1, cz, if_pos (show nI 0 ≤ (0 : Int32) from Int32.le_refl _), e_bd, e_bd, y1]
      · rw [cz, if_pos l_0.symm, lw_14, m5, e_bd]
        unfold pX11_tag_j52
        have e3 : oA M3 6 ((125 : Int32) + nI q).toNatClampNeg = nI 0 := by rw [l_125, nI_add, e_cl (by omega), m6.o6, c4', Nf_app, cz]
        rw [show fu = 99999 + 1 from rfl, pX11_tag_l54, i1, e_gd, e3, if_pos (show nI 0 ≤ (0 : Int32) from Int32.le_refl _), e_bd, y2]
    · have nz : ¬ nI (g (125 + q)) = (0 : Int32) := fun e => cz ((nI_eq (by omega) (by omega)).mp (show nI (g (125 + q)) = nI 0 from e))
      obtain ⟨W3, w5, w6⟩ := c_tag_l (V2 := V2) (nn := nn) (fun t ht => ⟨(na t ht).1, (na t ht).2.2⟩) c1 c2 c6 q6 fu 8 0 0 (by omega) (by omega) (by rw [fu_eq]; omega) (by omega) w2 (by omega)
      have na9 : ∀ t, t < g 0 → oJ (sI M 0 (0 : Int32)) 9 t = lN (nn t) ∧ wok (nn t) := fun t ht => by
        have := (na t ht).2
        rw [Nat.zero_add] at this
        exact this
      obtain ⟨M3, m5, m6⟩ := r_tag_l na9 c1 c2 c4' q6 fu 9 0 (by omega) (by omega) (by rw [fu_eq]; omega) m2 (by omega)
      have bd := wr_le (nn := nn) hL 9 0 s (by omega) (by omega)
      rw [Nat.zero_add] at w6
      have ew : wr g nn q 9 0 s = if 0 < g (125 + q) then wr g nn q 8 (0 + ru (hr g q) (hr g q 0) (g (125 + q) - 0) 0) (kt nn s (hr g q 0) (ru (hr g q) (hr g q 0) (g (125 + q) - 0) 0)) else s := rfl
      rw [Nat.zero_add] at ew
      rw [← ew] at w6
      obtain ⟨y1, y2, y3⟩ := fin bd w6 m6
      have w5' : pX7_write_l46 V2 V3 (nI q) fu (0 : Int32) (0 : Int32) W1 = some W3 := w5
      have m5' : pX11_tag_l54 (nI q) fu (0 : Int32) M1 = some M3 := m5
      refine ⟨nI (wr g nn q 9 0 s).2, W3, M3, ?_, ?_, y3⟩
      · unfold pX7_write_j40
        rw [if_neg nz, w5', e_bd, e_bd, y1]
      · unfold pX11_tag_j52
        rw [if_neg nz, m5', e_bd, y2]
end
