/-! a quarter read -/
theorem h0_z {h : Nat → Nat} {k : Nat} (hk : k < 121) (h4 : k ≠ 4) : va_up (cz h 121) 4 9 k = 0 := by
  rw [uv_ne h4]; exact if_pos hk
theorem h0_4 {h : Nat → Nat} : va_up (cz h 121) 4 9 4 = 9 := uv_eq rfl
theorem dr0 {D T M : Ob} {h nn : Nat → Nat} (d0 : oI D 0 = nI 0) (d4 : oI D 4 = nI 0) (d7 : oI D 7 = nI 0) (d11 : oI D 11 = nI 0) (d14 : oI D 14 = nI 9) (d15 : oI D 15 = nI 0) (m7 : oA M 7 = Nf (va_up (cz h 121) 4 9)) (m20 : oI M 20 = nI 0) (mw : ∀ k, k < 22 → oJ M 10 k = lN (wcN k))
    (hT : (∀ p, p < 6 → oA T 1 p = nI 0 ∧ oA T 2 p = nI 0) ∧ (∀ t, t < 8 → oA T 3 t = nI 0 ∧ oA T 4 t = nI 0) ∧ (∀ t, t < 4 → oA T 5 t = nI 0 ∧ oA T 6 t = nI 0) ∧ oI T 7 = nI 0 ∧ oI T 8 = nI 0 ∧ oI T 9 = nI 0 ∧ oI T 10 = nI 0 ∧ oI T 11 = nI 0) : DR D T M (va_up (cz h 121) 4 9) nn false := by
  have z0 : va_up (cz h 121) 4 9 0 = 0 := h0_z (by omega) (by omega)
  have z1 : va_up (cz h 121) 4 9 1 = 0 := h0_z (by omega) (by omega)
  have z2 : va_up (cz h 121) 4 9 2 = 0 := h0_z (by omega) (by omega)
  have z3 : va_up (cz h 121) 4 9 3 = 0 := h0_z (by omega) (by omega)
  have z4 : va_up (cz h 121) 4 9 4 = 9 := h0_4
  have zz : ∀ p, p < 6 → va_up (cz h 121) 4 9 (27 + p) = 0 := fun p hp => h0_z (by omega) (by omega)
  generalize va_up (cz h 121) 4 9 = u at *
  obtain ⟨a, b, c, t7, t8, t9, t10, t11⟩ := hT
  refine ⟨⟨by omega, by omega, by omega, by omega, by omega, fun i hi => by omega, fun i hi => by omega, fun i hi => by omega, fun i hi => by omega⟩, ⟨by rw [z0]; exact d0, by rw [z1]; exact d4, by rw [z2]; exact d7, by rw [z3]; exact d11, by rw [z4]; exact d14, fun i hi => by omega, fun i hi => by omega, fun i hi => by omega, fun i hi => by omega, fun i hi => by omega, fun i hi => by omega, fun i hi => by omega⟩, m7, ⟨fun p hp => ⟨by rw [zz p hp]; omega, by rw [zz p hp]; exact (a p hp).1, (a p hp).2⟩, fun p hp k hk => by rw [zz p hp] at hk; omega, b, c, t7, t8, t9, t10, t11⟩, d15, m20, fun i hi => by omega, fun i hi => by omega, fun i hi => by omega, mw⟩
theorem lnc0 {h : Nat → Nat} : lnc (va_up (cz h 121) 4 9) false = 0 := by
  have s0 : sm (fun p => va_up (cz h 121) 4 9 (27 + p)) 6 = 0 := by
    have := sm_le (f := fun p => va_up (cz h 121) 4 9 (27 + p)) (c := 0) (n := 6) (fun p hp => by show va_up (cz h 121) 4 9 (27 + p) ≤ 0; rw [h0_z (by omega) (by omega)]; exact Nat.le_refl _)
    omega
  unfold lnc
  rw [s0, h0_z (k := 0) (by omega) (by omega), h0_z (k := 1) (by omega) (by omega), h0_z (k := 2) (by omega) (by omega), h0_z (k := 3) (by omega) (by omega)]
  rfl
theorem gQ_hi {h g : Nat → Nat} {k : Nat} (hk : 390 ≤ k) : gQ h g k = g k := by
  unfold gQ
  rw [cpn_out (by omega), cpn_out (by omega)]
  unfold gq1
  rw [if_neg (by omega)]
section
variable {N : Nat} {V0 V1 V2 V3 V4 V5 V8 V9 V10 V11 V12 V13 M O : Ob} {K IM IQ IS IN : Nat → Ob}
theorem st_quarter (H : RE N V0 V1 V2 V3 V4 V5 V9 V10 V12 K IM IQ IS IN M O) : ∃ o V0' V11' V1' V13' V2' V3' V4' V5' M', pX10_quarter V0 V11 V1 V13 V2 V3 V4 V5 = some (o, V0', V11', V1', V13', V2', V3', V4', V5') ∧ pX11_quarter M = some (o, M') ∧ RE (N + 360) V0' V1' V2' V3' V4' V5' V9 V10 V12 K IM IQ IS IN M' O := by
  obtain ⟨g, nn, H⟩ := H
  have H0 := H
  obtain ⟨⟨c1, c2, c3, c4, c5, c6, c7, c8⟩, hT, hP, hE, hA, hF, hB, hG, hC, hI, hO⟩ := H
  have g0 := w_g0 c1
  have g1 := w_g1 c1
  have g3 := w_g3 c1
  have c4' : oA (sI M 0 (0 : Int32)) 6 = Nf g := c4
  obtain ⟨tb, z, t1, t2, t3, t4⟩ := id hT
  have t4' : oI (sI M 0 (0 : Int32)) 2 = nI z := t4
  obtain ⟨h, e7⟩ := hC.2
  obtain ⟨T, q1, q2⟩ := c_clear (T := V13)
  have rc := r_clears (M := sI (sI (sI (sI (sI (sI (sI (sI M 0 (0 : Int32)) 3 (nI z)) 2 (0 : Int32)) 4 (0 : Int32)) 5 (900 : Int32)) 15 (0 : Int32)) 19 (0 : Int32)) 20 (0 : Int32)) (h := h) e7
  obtain ⟨A, B, o1, o2, o3, o4⟩ := p_open (V := V1) (M1 := sA (sI (sI (sI (sI (sI (sI (sI (sI M 0 (0 : Int32)) 3 (nI z)) 2 (0 : Int32)) 4 (0 : Int32)) 5 (900 : Int32)) 15 (0 : Int32)) 19 (0 : Int32)) 20 (0 : Int32)) 7 (Nf (va_up (cz h 121) 4 9))) (tb := tb) (lim := 900) ⟨t1.1, t1.2.1, t1.2.2⟩ t2 (by omega) t3 rfl rfl rfl rfl
  have o1' : pX8_open V1 (900 : Int32) = some A := o1
  have oI0 : ∀ k, 21 ≤ k → oI B k = oI M k := fun k h1 => (o4.1 k (by omega) (by omega) (by omega) (by omega) (by omega)).trans (by
    rw [oI_sA, oI_sI, if_neg (by omega), oI_sI, if_neg (by omega), oI_sI, if_neg (by omega), oI_sI, if_neg (by omega), oI_sI, if_neg (by omega), oI_sI, if_neg (by omega), oI_sI, if_neg (by omega), oI_sI, if_neg (by omega)])
  have oA0 : ∀ k, k ≠ 7 → oA B k = oA M k := fun k hk => (o4.2.1 k).trans (by rw [oA_sA, if_neg hk]; rfl)
  have oJ0 : ∀ k, oJ B k = oJ M k := fun k => o4.2.2 k
  have B2 : oI B 2 = nI 0 := (o4.1 2 (by omega) (by omega) (by omega) (by omega) (by omega)).trans rfl
  have B19 : oI B 19 = nI 0 := (o4.1 19 (by omega) (by omega) (by omega) (by omega) (by omega)).trans rfl
  have B20 : oI B 20 = nI 0 := (o4.1 20 (by omega) (by omega) (by omega) (by omega) (by omega)).trans rfl
  have B7 : oA B 7 = Nf (va_up (cz h 121) 4 9) := (o4.2.1 7).trans rfl
  have dr := dr0 (D := sI (sI (sI (sI (sI (sI V11 0 (0 : Int32)) 4 (0 : Int32)) 7 (0 : Int32)) 11 (0 : Int32)) 14 (9 : Int32)) 15 (0 : Int32)) (nn := nn) rfl rfl rfl rfl rfl rfl B7 B20 (fun k hk => by rw [oJ0]; exact hC.1 k hk) q2
  have pls := p_lines fu fu o3 dr (by rw [lnc0]; exact B19) (by rw [fu_eq]; omega) (by rw [fu_eq]; omega)
  rw [lnc0] at pls
  unfold pX10_quarter pX11_quarter pX4_readFrom pX11_taken
  rw [q1, e_bd, o1', e_bd, e_bd, t4', rc, e_bd, o2, e_bd]
  rcases pls with ⟨n, D', A', T', M', h', nn', b', p1, p2, p3, p4, p5, p6, p7, f3, p8⟩ | ⟨D', A', T', M', p2, p3, p6, p8⟩
  · have p2' : pX4_readFrom_l44 fu (0 : Int32) (sI (sI (sI (sI (sI (sI V11 0 (0 : Int32)) 4 (0 : Int32)) 7 (0 : Int32)) 11 (0 : Int32)) 14 (9 : Int32)) 15 (0 : Int32)) A T = some (nI n, D', A', T') := p2
    have qI : ∀ k, 21 ≤ k → oI M' k = oI M k := fun k h1 => (p6.1 k (by omega) (by omega) (by omega) (by omega) (by omega) (by omega) (by omega) (by omega) (by omega) (by omega)).trans (oI0 k h1)
    have q2_ : oI M' 2 = nI 0 := (p6.1 2 (by omega) (by omega) (by omega) (by omega) (by omega) (by omega) (by omega) (by omega) (by omega) (by omega)).trans B2
    have qA : ∀ k, k ≠ 7 → oA M' k = oA M k := fun k hk => (p6.2.1 k hk).trans (oA0 k hk)
    have qJ : ∀ k, k ≠ 9 → oJ M' k = oJ M k := fun k hk => (p6.2.2.2.1 k hk).trans (oJ0 k)
    have e9 : oI (sI A' 1 (0 : Int32)) 9 = nI 0 := p3.2.1
    have tbA : TB A' M' tb := p3.1.1.1
    have qe := r_qend p5 ((qA 6 (by omega)).trans c4) p4 p7 f3
    obtain ⟨d1, d2, d3, d4, d5, d6, d7, d8, d9, d10⟩ := p5
    have wq' : WQ (gQ h' g) := wq_new d1
    obtain ⟨ws', sr', gd'⟩ := ws_new (N := N) (g := g) d1 d4
    obtain ⟨Q', u1, u2, u3, u4, u5⟩ := c_qcopy (S := V2) wq' (qr_new (g := g) d1 d2)
    obtain ⟨S', s1, s2⟩ := c_copy (S := V3) ws' wq' sr'
    obtain ⟨m, x, r1, r2, r3, r4, r5, r6⟩ := hP
    refine ⟨nI n, sI V0 12 (nI 0), D', sI A' 1 (0 : Int32), T', Q', S', sI (sI V4 3 (0 : Int32)) 4 (0 : Int32), sI V5 2 (0 : Int32), sI (sA (sJ M' 9 (cpn (oJ M' 9) (oJ M' 9) 0 18 18)) 6 (Nf (gQ h' g))) 23 (nI 0), ?_, by rw [p8]; exact qe, ?_⟩
    · rw [p2', e_bd, e9, oI_sI, if_pos rfl, if_pos l_0.symm, u1, e_bd, s1, e_bd]
      unfold pX5_forget pX2_forget
      rw [e_bd, e_bd]
    · obtain ⟨f1, f2, f3, f4⟩ := hF
      have fI : ∀ k, 24 ≤ k → oI (sI (sA (sJ M' 9 (cpn (oJ M' 9) (oJ M' 9) 0 18 18)) 6 (Nf (gQ h' g))) 23 (nI 0)) k = oI M k := fun k hk => by
        rw [oI_sI, if_neg (by omega)]; exact qI k (by omega)
      have e0 : gQ h' g 0 = h' 0 := gQ_lo (by omega)
      have e1 : gQ h' g 1 = h' 1 := gQ_lo (by omega)
      have e3 : gQ h' g 3 = h' 3 := gQ_lo (by omega)
      have w0 := w_g0 d1
      have w1 := w_g1 d1
      have w3 := w_g3 d1
      have nr : NR D' (sI (sA (sJ M' 9 (cpn (oJ M' 9) (oJ M' 9) 0 18 18)) 6 (Nf (gQ h' g))) 23 (nI 0)) (gQ h' g) nn' := by
        unfold NR
        rw [e0, e1, e3]
        refine ⟨fun i hi => ⟨(d7 i hi).1, ?_, (d7 i hi).2.2⟩, fun i hi => ⟨(d8 i hi).1, ?_, (d8 i hi).2.2⟩, fun i hi => ⟨(d9 i hi).1, ?_, (d9 i hi).2.2⟩⟩
        · show cpn (oJ M' 9) (oJ M' 9) 0 18 18 (0 + i) = _
          rw [cpn_in (by omega) (by omega), show 18 + (0 + i - 0) = 18 + i by omega]; exact (d7 i hi).2.1
        · show cpn (oJ M' 9) (oJ M' 9) 0 18 18 (8 + i) = _
          rw [cpn_in (by omega) (by omega), show 18 + (8 + i - 0) = 26 + i by omega]; exact (d8 i hi).2.1
        · show cpn (oJ M' 9) (oJ M' 9) 0 18 18 (14 + i) = _
          rw [cpn_in (by omega) (by omega), show 18 + (14 + i - 0) = 32 + i by omega]; exact (d9 i hi).2.1
      refine ⟨gQ h' g, nn', ⟨wq', ws'.mono (by omega), by rw [gd']; omega, rfl, u2, s2, NR.cv wq' u3 u4 u5 nr, fun j hj => (gQ_hi hj).trans (c8 j hj)⟩, ⟨tb, 0, ⟨tbA.1, tbA.2.1, tbA.2.2⟩, by omega, rfl, q2_⟩, ⟨0, x, by omega, r2, rfl, rfl, r5, fun j hj => by omega⟩, ⟨hE.1, Or.inl ⟨gQ_z (by omega), rfl⟩⟩, hA, ⟨p3.2.2.symm, f2.c0 rfl (fI 25 (by omega)) (fI 24 (by omega)), f3.c0 rfl (fI 30 (by omega)) (fI 29 (by omega)), f4.c0 rfl (fI 32 (by omega)) (fI 31 (by omega))⟩, hB.c (fI 38 (by omega)) (qA 37 (by omega)), hG.c (fI 34 (by omega)) (qA 33 (by omega)), ⟨d10, h', d3⟩, fun k hk => (hI k hk).c (by omega) (qA 48 (by omega)) (qA 46 (by omega)) (qJ 47 (by omega)), hO⟩
  · have p2' : pX4_readFrom_l44 fu (0 : Int32) (sI (sI (sI (sI (sI (sI V11 0 (0 : Int32)) 4 (0 : Int32)) 7 (0 : Int32)) 11 (0 : Int32)) 14 (9 : Int32)) 15 (0 : Int32)) A T = some (-nI 1, D', A', T') := p2
    have qI : ∀ k, 21 ≤ k → oI M' k = oI M k := fun k h1 => (p6.1 k (by omega) (by omega) (by omega) (by omega) (by omega) (by omega) (by omega) (by omega) (by omega) (by omega)).trans (oI0 k h1)
    have qz : oI M' 2 = nI 0 := (p6.1 2 (by omega) (by omega) (by omega) (by omega) (by omega) (by omega) (by omega) (by omega) (by omega) (by omega)).trans B2
    have qA : ∀ k, k ≠ 7 → oA M' k = oA M k := fun k hk => (p6.2.1 k hk).trans (oA0 k hk)
    have qJ : ∀ k, k ≠ 9 → oJ M' k = oJ M k := fun k hk => (p6.2.2.2.1 k hk).trans (oJ0 k)
    obtain ⟨q2, k, pl, k1, k2, k3, k4, k5, k6, k7⟩ := p3
    have e9 : oI (sI A' 1 (0 : Int32)) 9 = nI k := k4
    have e10 : oI (sI A' 1 (0 : Int32)) 10 = nI pl := k6
    have nz : ¬ nI k = (0 : Int32) := fun e => by have := (nI_eq (by omega) (by omega)).mp (show nI k = nI 0 from e); omega
    refine ⟨(-1 : Int32) - nI pl, sI V0 12 (nI k), D', sI A' 1 (0 : Int32), T', V2, V3, V4, V5, M', ?_, ?_, ?_⟩
    · rw [p2', e_bd, e9, e10, oI_sI, if_pos rfl, if_neg nz]
    · rw [p8, k7]; rfl
    · exact H0.parse (V1' := sI A' 1 (0 : Int32)) (fun j h1 h2 => qI j (by omega)) (qI 38 (by omega)) (fun j hj => qA j (by omega)) p6.2.2.2.2 (fun j hj => qJ j (by omega)) (fun j hj => (p6.2.2.1 j hj).trans (by rw [oJ0])) ((qA 6 (by omega)).trans c4) ⟨tb, 0, ⟨q2.1, q2.2.1, q2.2.2⟩, by omega, rfl, qz⟩ k5.symm hA (hB.c (qI 38 (by omega)) (qA 37 (by omega)))
end
