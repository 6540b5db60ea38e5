/-! whose hair it is; a book -/
section
variable {N : Nat} {V0 V1 V2 V3 V4 V5 V8 V9 V10 V12 V13 M O R A : Ob} {K IM IQ IS IN : Nat → Ob} {g nn : Nat → Nat}
theorem fits_lp {tb : Nat → Nat} {z : Nat} (c1 : WQ g) (c2 : WS N g) (c5 : QR V2 g) (c6 : SR V3 g) (hT : TB A R tb) (hz : oI R 3 = nI z) (z8 : z ≤ 8) (h6 : oA R 6 = Nf g) : ∀ (n k : Nat), k ≤ z → z - k < n →
    (pX10_fits_l31 V0 A V2 V3 V8 (nI z) n (nI k) = some ((-1 : Int32), V0, A) ∧ pX11_fits_l29 R n (nI k) = some ((-1 : Int32), R)) ∨
    (pX10_fits_l31 V0 A V2 V3 V8 (nI z) n (nI k) = some (nI 0, V0, A) ∧ pX11_fits_l29 R n (nI k) = some (nI 0, R)) ∨
    (∃ s, 0 < s ∧ s < 64 ∧ pX10_fits_l31 V0 A V2 V3 V8 (nI z) n (nI k) = some (nI s, sI V0 15 (nI (al g s 7)), A) ∧ pX11_fits_l29 R n (nI k) = some (nI s, sI (sI R 32 (1 : Int32)) 31 (nI (al g s 7))))
  | 0, k, _, h => by omega
  | n + 1, k, h1, h2 => by
    have g0 := w_g0 c1
    have g1 := w_g1 c1
    rw [pX10_fits_l31, pX11_fits_l29, hz]
    by_cases c : k = z
    · have p : nI z ≤ nI k := nI_le (by omega) (by omega)
      have x1 : pX10_fits_l64 V0 A V2 V3 V8 (nI z) fu (0 : Int32) (0 : Int32) = some (nI (bs (ft g tb z) (g 1))) := c_fits_l c1 c2 c5 c6 hT z8 fu 0 (by omega) (by rw [fu_eq]; omega)
      have x2 : pX11_fits_l61 R fu (0 : Int32) (0 : Int32) = some (nI (bs (ft g tb z) (g 1))) := r_fits_l c1 c2 h6 hT hz z8 fu 0 (by omega) (by rw [fu_eq]; omega)
      have b1 := bs_lt (ft g tb z) (g 1)
      have b2 := pow_le64 g1
      rw [if_pos p, if_pos p, x1, x2, e_bd, e_bd]
      generalize bs (ft g tb z) (g 1) = s at *
      by_cases s0 : s = 0
      · subst s0
        refine Or.inr (Or.inl ⟨?_, ?_⟩)
        · rw [if_pos (show nI 0 ≤ (0 : Int32) from Int32.le_refl _)]
        · rw [if_pos l_0.symm]; rfl
      · have nz : ¬ nI s = (0 : Int32) := fun e => s0 ((nI_eq (by omega) (by omega)).mp (show nI s = nI 0 from e))
        have nz2 : ¬ nI s ≤ (0 : Int32) := show ¬ nI s ≤ nI 0 from nI_ge (by omega) (by omega)
        have r := r_ask_l c1 c2 (s := s) (by omega) fu 1 (M := sI R 32 (1 : Int32)) h6 (by omega) (by omega) (by rw [fu_eq]; omega)
        have r' : pX11_fits_l113 (nI s) fu (1 : Int32) (sI (sI R 32 (1 : Int32)) 31 (0 : Int32)) = some (sI (sI R 32 (1 : Int32)) 31 (nI (al g s 7))) := r
        refine Or.inr (Or.inr ⟨s, by omega, by omega, ?_, ?_⟩)
        · rw [if_neg nz2, c_ask c1 c2 c5 c6 (by omega), e_bd]
        · rw [if_neg nz, r', e_bd]
    · have p : ¬ nI z ≤ nI k := nI_ge (by omega) (by omega)
      have oc : pX11_octet R (nI k) = some (nI (tb k)) := by
        unfold pX11_octet
        rw [e_in (show k < 940 by omega) (by omega), e_gd, e_cl (by omega)]
        exact congrArg some (hT.2.1 k)
      rw [if_neg p, if_neg p, e_in (show k < 940 by omega) (by omega), e_gd, e_cl (by omega), hT.1 k, oc, e_bd]
      rcases p_isT (V0 := V0) c1 c5 h6 (nI (tb k)) with ⟨x1, x2⟩ | ⟨q, hq, _, x1, x2⟩
      · exact Or.inl ⟨by rw [x1, e_bd, if_pos l_0.symm], by rw [x2, e_bd, if_pos l_0.symm]⟩
      · rw [x1, x2, e_bd, e_bd, if_neg n1_ne, if_neg n1_ne, l_1, nI_add]
        exact fits_lp c1 c2 c5 c6 hT hz z8 h6 n (k + 1) (by omega) (by omega)
theorem st_fits (H : RE N V0 V1 V2 V3 V4 V5 V9 V10 V12 K IM IQ IS IN M O) : ∃ o V0' V1' M', pX10_fits V0 V1 V2 V3 V8 = some (o, V0', V1') ∧ pX11_fits M = some (o, M') ∧ RE (N + 360) V0' V1' V2 V3 V4 V5 V9 V10 V12 K IM IQ IS IN M' O := by
  obtain ⟨g, nn, H⟩ := H
  have H0 := H
  obtain ⟨⟨c1, c2, c3, c4, c5, c6, c7, c8⟩, hT, hP, hE, hA, hF, hB, hG, hC, hI, hO⟩ := H
  have g0 := w_g0 c1
  have g1 := w_g1 c1
  have g3 := w_g3 c1
  have c4' : oA (sI M 0 (0 : Int32)) 6 = Nf g := c4
  obtain ⟨tb, z, t1, t2, t3, t4⟩ := id hT
  have t4' : oI (sI M 0 (0 : Int32)) 2 = nI z := t4
  unfold pX10_fits pX11_fits pX11_taken
  rw [e_bd, t3, t4', oI_sI, if_neg (show ¬ 3 = 5 by omega), oI_sI, if_neg (show ¬ 3 = 4 by omega), oI_sI, if_neg (show ¬ 3 = 2 by omega), oI_sI, if_pos rfl]
  have re : RE (N + 360) V0 (sI V1 1 (0 : Int32)) V2 V3 V4 V5 V9 V10 V12 K IM IQ IS IN (sI (sI (sI (sI (sI M 0 (0 : Int32)) 3 (nI z)) 2 (0 : Int32)) 4 (0 : Int32)) 5 (940 : Int32)) O :=
    ⟨g, nn, ⟨c1, c2.mono (by omega), c3, c4, c5, c6, c7, c8⟩, ⟨tb, 0, ⟨t1.1, t1.2.1, t1.2.2⟩, by omega, rfl, rfl⟩, hP.of (by omega) (Sm.refl g) rfl rfl, hE, hA, hF, hB, hG, hC, fun k hk => (hI k hk).c (by omega) rfl rfl rfl, hO⟩
  rcases in_c (nI z) 1 8 (by omega) (by omega) with ⟨y1, y2⟩ | ⟨y1, y2, y3⟩ | ⟨n, n1, n2, ez, y1, y2, y3⟩
  · have y2' : pX11_isIn (nI z) (1 : Int32) (8 : Int32) = some (nI 0) := y2
    exact ⟨(-1 : Int32), V0, sI V1 1 (0 : Int32), _, by rw [if_pos (show nI z < (1 : Int32) from y1)], by rw [y2', e_bd, if_pos l_0.symm], re⟩
  · have y3' : pX11_isIn (nI z) (1 : Int32) (8 : Int32) = some (nI 0) := y3
    exact ⟨(-1 : Int32), V0, sI V1 1 (0 : Int32), _, by rw [if_neg (show ¬ nI z < (1 : Int32) from y1), if_neg (show ¬ nI z ≤ (8 : Int32) from y2)], by rw [y3', e_bd, if_pos l_0.symm], re⟩
  · have y3' : pX11_isIn (nI z) (1 : Int32) (8 : Int32) = some (nI 1) := y3
    have en : z = n := (nI_eq (by omega) (by omega)).mp ez
    rw [if_neg (show ¬ nI z < (1 : Int32) from y1), if_pos (show nI z ≤ (8 : Int32) from y2), y3', e_bd, if_neg n1_ne]
    have hT' : TB (sI V1 1 (0 : Int32)) (sI (sI (sI (sI (sI M 0 (0 : Int32)) 3 (nI z)) 2 (0 : Int32)) 4 (0 : Int32)) 5 (940 : Int32)) tb := ⟨t1.1, t1.2.1, t1.2.2⟩
    rcases fits_lp (V0 := V0) (V8 := V8) c1 c2 c5 c6 hT' (z := z) rfl (by omega) c4 fu 0 (by omega) (by rw [fu_eq]; omega) with ⟨x1, x2⟩ | ⟨x1, x2⟩ | ⟨s, s1, s2, x1, x2⟩
    · exact ⟨_, _, _, _, x1, x2, re⟩
    · exact ⟨_, _, _, _, x1, x2, re⟩
    · refine ⟨_, _, _, _, x1, x2, ?_⟩
      obtain ⟨f1, f2, f3, f4⟩ := hF
      exact ⟨g, nn, ⟨c1, c2.mono (by omega), c3, c4, c5, c6, c7, c8⟩, ⟨tb, 0, ⟨t1.1, t1.2.1, t1.2.2⟩, by omega, rfl, rfl⟩, hP.of (by omega) (Sm.refl g) rfl rfl, hE, hA, ⟨f1, f2.c0 rfl rfl rfl, f3.c0 rfl rfl rfl, Or.inr ⟨rfl, rfl⟩⟩, hB, hG, hC, fun k hk => (hI k hk).c (by omega) rfl rfl rfl, hO⟩
end
/-! what a book's reading leaves of the book -/
def al3 (S : Ob) (x : Option (Int32 × Ob × Ob)) : Prop := ∀ r, x = some r → ∀ k, k ≠ 3 → oI r.2.1 k = oI S k
theorem al3_some {S S' : Ob} {a : Int32} {b : Ob} (h : ∀ k, k ≠ 3 → oI S' k = oI S k) : al3 S (some (a, S', b)) := fun r e k hk => by cases e; exact h k hk
theorem al3_bd {α : Type} {S : Ob} {x : Option α} {f : α → Option (Int32 × Ob × Ob)} (h : ∀ a, x = some a → al3 S (f a)) : al3 S (x.bind f) := fun r e => by
  obtain ⟨a, e1, e2⟩ := bd_some e
  exact h a e1 r e2
theorem al3_gd {S : Ob} {b : Bool} {x : Option (Int32 × Ob × Ob)} (h : al3 S x) : al3 S (gd b x) := fun r e => h r (gd_some e).2
theorem al3_ite {S : Ob} {c : Prop} [Decidable c] {x y : Option (Int32 × Ob × Ob)} (h1 : al3 S x) (h2 : al3 S y) : al3 S (if c then x else y) := by
  by_cases e : c
  · rw [if_pos e]; exact h1
  · rw [if_neg e]; exact h2
theorem al_add {S : Ob} {a : Option Nat} {b c : Int32} {r : Int32 × Ob} (h : pX0_addLine S a b c = some r) : ∀ k, k ≠ 3 → oI r.2 k = oI S k := by
  intro k hk
  unfold pX0_addLine at h
  split at h
  · cases h; rfl
  · split at h
    · obtain ⟨_, h⟩ := gd_some h
      obtain ⟨_, h⟩ := gd_some h
      obtain ⟨_, h⟩ := gd_some h
      obtain ⟨_, h⟩ := gd_some h
      cases h
      rw [oI_sI, if_neg hk]; rfl
    · cases h; rfl
theorem al_91 {S Sa Sb : Ob} {s1 : Option Nat} {s2 s3 : Int32} : al3 S (pX0_readOfPerson_j91 S Sa Sb s1 s2 s3) := by
  unfold pX0_readOfPerson_j91
  exact al3_bd (fun a e => al3_gd (al3_some (al_add e)))
theorem al_36 {S Sa Sb : Ob} {l3 : Int32} {l4 : Option Nat} : al3 S (pX0_readOfPerson_j36 S Sa Sb l3 l4) := by
  unfold pX0_readOfPerson_j36
  exact al3_bd (fun a _ => al3_gd (al3_ite (al3_bd (fun b _ => al3_bd (fun c e => al3_gd (al3_some (al_add e))))) (al3_gd (al3_ite al_91 (al3_bd (fun b _ => al_91))))))
theorem al_per {S Sa Sb : Ob} {c : Int32} : al3 S (pX0_readOfPerson S Sa Sb c) := by
  unfold pX0_readOfPerson
  exact al3_gd (al3_ite al_36 (al3_gd (al3_ite al_36 (al3_gd (al3_ite al_36 (al3_bd (fun b _ => al3_gd (al3_some (fun _ _ => rfl)))))))))
theorem al_stuff {S Sa Sb : Ob} : al3 S (pX0_readStuffing S Sa Sb) := by
  unfold pX0_readStuffing
  exact al3_bd (fun a _ => al3_ite (al3_some (fun _ _ => rfl)) (al3_bd (fun b _ => al3_bd (fun c e => al3_gd (al3_some (al_add e))))))
theorem al_46 {S Sa Sb : Ob} {s0 : Int32} : al3 S (pX0_readLine_j46 S Sa Sb s0) := by
  unfold pX0_readLine_j46
  refine al3_ite (al3_some (fun _ _ => rfl)) (al3_ite (al3_bd (fun a _ => al3_gd (al3_ite (al3_bd (fun b e => al3_gd (al3_some (al_stuff b e)))) (al3_gd (al3_ite (al3_bd (fun b _ => al3_bd (fun c e => al3_gd (al3_some (al_add e))))) (al3_bd (fun b e => al3_gd (al3_some (al_per b e))))))))) (al3_bd (fun a _ => al3_gd (al3_some (fun _ _ => rfl)))))
theorem al_25 {S Sa Sb : Ob} {s0 : Int32} : al3 S (pX0_readLine_j25 S Sa Sb s0) := by
  unfold pX0_readLine_j25
  exact al3_ite al_46 (al3_bd (fun a _ => al_46))
theorem al_line {S Sa Sb : Ob} : al3 S (pX0_readLine S Sa Sb) := by
  unfold pX0_readLine pX0_readLine_j24
  exact al3_gd (al3_ite al_25 (al3_gd (al3_ite al_25 al_25)))
theorem al_lines (Sb : Ob) : ∀ (n : Nat) (l3 l4 : Int32) (S Sa : Ob) (r : Ob × Ob), pX0_readFrom_l17 Sb n l3 l4 S Sa = some r → ∀ k, k ≠ 3 → oI r.1 k = oI S k
  | 0, _, _, _, _, _, h => by cases h
  | n + 1, l3, l4, S, Sa, r, h => by
    rw [pX0_readFrom_l17] at h
    intro k hk
    split at h
    · cases h; rfl
    · split at h
      · cases h; rfl
      · split at h
        · cases h; rfl
        · obtain ⟨a, e1, h⟩ := bd_some h
          have fr := al_line a e1 k hk
          split at h
          · exact (al_lines Sb n _ _ _ _ r h k hk).trans fr
          · obtain ⟨b, e2, h⟩ := bd_some h
            split at h
            · exact (al_lines Sb n _ _ _ _ r h k hk).trans fr
            · exact (al_lines Sb n _ _ _ _ r h k hk).trans fr
section
variable {N : Nat} {V0 V1 V2 V3 V4 V5 V8 V9 V10 V12 V13 M O R V1' V3' V5' V9' : Ob} {K K' IM IQ IS IN : Nat → Ob} {g g' nn : Nat → Nat}
theorem REg.book {v : Int32} (H : REg N V0 V1 V2 V3 V4 V5 V9 V10 V12 K IM IQ IS IN M O g nn) (fI : ∀ k, 24 ≤ k → k ≤ 35 → oI R k = oI M k) (fA : ∀ k, k = 33 ∨ k = 46 ∨ k = 48 → oA R k = oA M k) (f7 : ∃ h, oA R 7 = Nf h) (fJ : ∀ k, oJ R k = oJ M k) (sm_ : Sm g g') (hW : WS (N + 360) g') (hd : g' 121 ≤ 400) (h6 : oA R 6 = Nf g') (hS : SR V3' g') (hP : PR N V5' K' R g) (hT : TA V1' R) (h15 : v = oI R 15) (hB' : BK V9' R) : RE (N + 360) (sI V0 12 v) V1' V2 V3' V4 V5' V9' V10 V12 K' IM IQ IS IN R O := by
  obtain ⟨⟨c1, c2, c3, c4, c5, c6, c7, c8⟩, _, _, hE, hA, ⟨f1, f2, f3, f4⟩, hB, hG, hC, hI, hO⟩ := H
  refine ⟨g', nn, ⟨WQ.of sm_ c1, hW, hd, h6, QR.of sm_ c1 c5, hS, (c7.c (fJ 9)).of sm_, fun j hj => (sm_ j (by omega)).trans (c8 j hj)⟩, hT, hP.of (by omega) sm_ rfl rfl, hE.of sm_, hA, ⟨h15, f2.c0 rfl (fI 25 (by omega) (by omega)) (fI 24 (by omega) (by omega)), f3.c0 rfl (fI 30 (by omega) (by omega)) (fI 29 (by omega) (by omega)), f4.c0 rfl (fI 32 (by omega) (by omega)) (fI 31 (by omega) (by omega))⟩, hB', hG.c (fI 34 (by omega) (by omega)) (fA 33 (by omega)), ⟨fun k hk => by rw [fJ 10]; exact hC.1 k hk, f7⟩, fun k hk => (hI k hk).c (by omega) (fA 48 (by omega)) (fA 46 (by omega)) (fJ 47), hO⟩
theorem st_book (H : RE N V0 V1 V2 V3 V4 V5 V9 V10 V12 K IM IQ IS IN M O) (a : Int32) : ∃ o V0' V9' V1' V13' V3' V5' K' M', pX10_book V0 V9 V1 V2 V13 V3 V5 K a = some (o, V0', V9', V1', V13', V3', V5', K') ∧ pX11_book M a = some (o, M') ∧ RE (N + 360) V0' V1' V2 V3' V4 V5' V9' V10 V12 K' IM IQ IS IN M' O := by
  obtain ⟨g, nn, H⟩ := H
  have H0 := H
  obtain ⟨⟨c1, c2, c3, c4, c5, c6, c7, c8⟩, hT, hP, hE, hA, hF, hB, hG, hC, hI, hO⟩ := H
  have g0 := w_g0 c1
  have g1 := w_g1 c1
  have g3 := w_g3 c1
  have c4' : oA (sI M 0 (0 : Int32)) 6 = Nf g := c4
  obtain ⟨tb, z, t1, t2, t3, t4⟩ := id hT
  have t4' : oI (sI M 0 (0 : Int32)) 2 = nI z := t4
  unfold pX10_book pX11_book
  rcases in_c a 0 1 (by omega) (by omega) with ⟨y1, y2⟩ | ⟨y1, y2, y3⟩ | ⟨n, n1, n2, rfl, y1, y2, y3⟩
  · have y2' : pX11_isIn a (0 : Int32) (1 : Int32) = some (nI 0) := y2
    exact ⟨(-1000 : Int32), V0, V9, V1, V13, V3, V5, K, sI M 0 (0 : Int32), by rw [if_pos (show a < 0 from y1)], by rw [y2', e_bd, if_pos l_0.symm], H0.s0 _⟩
  · have y3' : pX11_isIn a (0 : Int32) (1 : Int32) = some (nI 0) := y3
    exact ⟨(-1000 : Int32), V0, V9, V1, V13, V3, V5, K, sI M 0 (0 : Int32), by rw [if_neg (show ¬ a < 0 from y1), if_neg (show ¬ a ≤ (1 : Int32) from y2)], by rw [y3', e_bd, if_pos l_0.symm], H0.s0 _⟩
  · have y3' : pX11_isIn (nI n) (0 : Int32) (1 : Int32) = some (nI 1) := y3
    unfold pX0_readFrom pX11_taken
    rw [if_neg (show ¬ nI n < 0 from y1), if_pos (show nI n ≤ (1 : Int32) from y2), y3', e_bd, if_neg n1_ne, e_bd, t4']
    obtain ⟨A, B, o1, o2, o3, o4⟩ := p_open (V := V1) (M1 := sI (sI (sI (sI (sI (sI (sI M 0 (0 : Int32)) 3 (nI z)) 2 (0 : Int32)) 4 (0 : Int32)) 5 (400 : Int32)) 15 (0 : Int32)) 36 (0 : Int32)) (tb := tb) (lim := 400) ⟨t1.1, t1.2.1, t1.2.2⟩ t2 (by omega) t3 rfl rfl rfl rfl
    have o1' : pX8_open V1 (400 : Int32) = some A := o1
    have oI0 : ∀ k, 19 ≤ k → k ≠ 36 → oI B k = oI M k := fun k h1 h2 => (o4.1 k (by omega) (by omega) (by omega) (by omega) (by omega)).trans (by
      rw [oI_sI, if_neg h2, oI_sI, if_neg (by omega), oI_sI, if_neg (by omega), oI_sI, if_neg (by omega), oI_sI, if_neg (by omega), oI_sI, if_neg (by omega), oI_sI, if_neg (by omega)])
    have b6 : oA B 6 = Nf g := (o4.2.1 6).trans c4
    have oJ0 : ∀ k, oJ B k = oJ M k := fun k => o4.2.2 k
    have oA0 : ∀ k, oA B k = oA M k := fun k => o4.2.1 k
    rw [o1', e_bd, o2, e_bd]
    rcases p_blines (nI n) c1 c5 fu fu 0 (B := sI V9 3 (0 : Int32)) o3 (fun k hk => by rw [oJ0]; exact hC.1 k hk) b6 (c7.gf oJ0) ⟨by omega, rfl, fun i hi => by omega⟩ ((o4.1 36 (by omega) (by omega) (by omega) (by omega) (by omega)).trans rfl) (by rw [fu_eq]; omega) (by rw [fu_eq]; omega) with ⟨m, B', A', M', p1, p2, p3, p4, p5, p6, p7, f3, p8⟩ | ⟨B', A', M', p2, p3, p6, p8⟩
    · have p2' : pX0_readFrom_l17 V2 fu (1 : Int32) (0 : Int32) (sI V9 3 (0 : Int32)) A = some (B', A') := p2
      have qI : ∀ k, 19 ≤ k → k ≠ 36 → oI M' k = oI M k := fun k h1 h2 => (p6.1 k (by omega) (by omega) (by omega) (by omega) (by omega) (by omega) (by omega) (by omega) h2).trans (oI0 k h1 h2)
      have q2 : oI M' 2 = nI 0 := (p6.1 2 (by omega) (by omega) (by omega) (by omega) (by omega) (by omega) (by omega) (by omega) (by omega)).trans ((o4.1 2 (by omega) (by omega) (by omega) (by omega) (by omega)).trans rfl)
      have qA : ∀ k, k ≠ 8 → oA M' k = oA M k := fun k hk => (p6.2.1 k hk).trans (oA0 k)
      have qJ : ∀ k, oJ M' k = oJ M k := fun k => (p6.2.2 k).trans (oJ0 k)
      have e9 : oI (sI A' 1 (0 : Int32)) 9 = nI 0 := p3.2.1
      have tbA : TB A' M' tb := p3.1.1.1
      obtain ⟨T, B2, T2, g', X, w, c, u1, u2, u3, u4, u5, u6, u7, u8, u9, u10, u11, u12, u13, u14, u15, u16, u17, u18, u19, u20⟩ := book_end (V13 := V13) c1 c2 c3 c5 c6 ((qA 6 (by omega)).trans c4) p5 p7 p4 f3 (nI n)
      have ans : ∀ {A0 D0 : Ob} {W0 W1 : Ob} {K0 : Nat → Ob} {Z : Ob}, pX10_book_j128 A0 B2 D0 V2 Z W0 W1 K0 = some (if w = 0 then -nI 1 else nI c, A0, B2, D0, Z, W0, W1, K0) := fun {A0 D0 W0 W1 K0 Z} => by
        unfold pX10_book_j128
        rw [u6, u7]
        by_cases w0 : w = 0
        · rw [w0, if_pos l_0.symm, if_pos rfl]; rfl
        · have nw : ¬ nI w = (0 : Int32) := fun e => w0 ((nI_eq (by omega) (by omega)).mp (show nI w = nI 0 from e))
          rw [if_neg nw, if_neg w0]
      have bk : ∀ {R : Ob}, oI R 38 = nI 1 → oA R 37 = X → BK B2 R := fun {R} r1 r2 => Or.inr ⟨r1, u5, by rw [r2, u6, u10], by rw [r2, u7, u11], by rw [r2, u8, u12], by rw [r2, u9, u13]⟩
      have ta : ∀ {R : Ob}, oI R 2 = oI M' 2 → oA R 1 = oA M' 1 → TA (sI A' 1 (0 : Int32)) R := fun {R} r1 r2 => ⟨tb, 0, ⟨tbA.1, fun i => by rw [r2]; exact tbA.2.1 i, tbA.2.2⟩, by omega, rfl, r1.trans q2⟩
      obtain ⟨h7, e7⟩ := hC.2
      rw [p2', e_bd, e_bd, e9, oI_sI, if_pos rfl, if_pos l_0.symm, u1, e_bd, u2, e_bd, p8]
      rcases (by omega : n = 0 ∨ n = 1) with rfl | rfl
      · refine ⟨if w = 0 then -nI 1 else nI c, sI V0 12 (nI 0), B2, sI A' 1 (0 : Int32), T2, V3, V5, K, sA (Mb M' g g' X) 6 (Nf g), ?_, u18 rfl, ?_⟩
        · rw [if_neg (show ¬ nI 0 = (1 : Int32) by decide)]; exact ans
        · exact H0.book (fun k h1 h2 => (by
            show oI (sA (sI _ 38 (nI 1)) 6 _) k = _
            rw [oI_sA, oI_sI, if_neg (by omega)]
            exact qI k (by omega) (by omega))) (fun k hk => by
            rcases hk with rfl | rfl | rfl
            · exact qA 33 (by omega)
            · exact qA 46 (by omega)
            · exact qA 48 (by omega)) ⟨h7, (qA 7 (by omega)).trans e7⟩ qJ (Sm.refl g) (c2.mono (by omega)) c3 rfl c6 (hP.of (Nat.le_refl _) (Sm.refl g) (qI 23 (by omega) (by omega)) (qA 21 (by omega))) (ta rfl rfl) p3.2.2.symm (bk rfl rfl)
      · rw [if_pos (show nI 1 = (1 : Int32) from rfl), u7]
        by_cases cz : c = 0
        · obtain ⟨v1, v2⟩ := u19 rfl cz
          subst v1
          refine ⟨if w = 0 then -nI 1 else nI c, sI V0 12 (nI 0), B2, sI A' 1 (0 : Int32), T2, V3, V5, K, Mb M' g' g' X, ?_, v2, ?_⟩
          · rw [if_pos (show nI c ≤ (0 : Int32) by rw [cz]; exact Int32.le_refl _)]; exact ans
          · exact H0.book (fun k h1 h2 => (by
              show oI (sI _ 38 (nI 1)) k = _
              rw [oI_sI, if_neg (by omega)]
              exact qI k (by omega) (by omega))) (fun k hk => by
              rcases hk with rfl | rfl | rfl
              · exact qA 33 (by omega)
              · exact qA 46 (by omega)
              · exact qA 48 (by omega)) ⟨h7, (qA 7 (by omega)).trans e7⟩ qJ (Sm.refl g') (c2.mono (by omega)) c3 rfl c6 (hP.of (Nat.le_refl _) (Sm.refl g') (qI 23 (by omega) (by omega)) (qA 21 (by omega))) (ta rfl rfl) p3.2.2.symm (bk rfl rfl)
        · obtain ⟨mm, hm, em, ⟨r1, r2⟩, k1, k2⟩ := c_keep c1 c2 c3 c6 hP c4
          obtain ⟨W, w1, w2⟩ := c_copy (S := V3) u15 (WQ.of u14 c1) u17
          refine ⟨if w = 0 then -nI 1 else nI c, sI V0 12 (nI 0), B2, sI A' 1 (0 : Int32), T2, W, r1, r2, sI (sA (Mb M' g g' X) 21 (ku (oA M' 21) (Nf g) mm)) 23 (nI (min (mm + 1) 8)), ?_, u20 rfl (by omega) mm hm ((qI 23 (by omega) (by omega)).trans em), ?_⟩
          · rw [if_neg (show ¬ nI c ≤ (0 : Int32) from nI_ge (show 0 < c by omega) (by omega)), k1, e_bd, w1, e_bd]; exact ans
          · exact H0.book (fun k h1 h2 => (by
              show oI (sI (sA (sI _ 38 (nI 1)) 21 _) 23 _) k = _
              rw [oI_sI, if_neg (by omega), oI_sA, oI_sI, if_neg (by omega)]
              exact qI k (by omega) (by omega))) (fun k hk => by
              rcases hk with rfl | rfl | rfl
              · exact qA 33 (by omega)
              · exact qA 46 (by omega)
              · exact qA 48 (by omega)) ⟨h7, (qA 7 (by omega)).trans e7⟩ qJ u14 u15 u16 rfl w2 (k2 _ rfl (by rw [← qA 21 (by omega)]; rfl)) (ta rfl rfl) p3.2.2.symm (bk rfl rfl)
    · have p2' : pX0_readFrom_l17 V2 fu (1 : Int32) (0 : Int32) (sI V9 3 (0 : Int32)) A = some (B', A') := p2
      obtain ⟨q2, k, pl, k1, k2, k3, k4, k5, k6, k7⟩ := p3
      have e9 : oI (sI A' 1 (0 : Int32)) 9 = nI k := k4
      have e10 : oI (sI A' 1 (0 : Int32)) 10 = nI pl := k6
      have nz : ¬ nI k = (0 : Int32) := fun e => by have := (nI_eq (by omega) (by omega)).mp (show nI k = nI 0 from e); omega
      have qI : ∀ k, 19 ≤ k → k ≠ 36 → oI M' k = oI M k := fun k h1 h2 => (p6.1 k (by omega) (by omega) (by omega) (by omega) (by omega) (by omega) (by omega) (by omega) h2).trans (oI0 k h1 h2)
      have qz : oI M' 2 = nI 0 := (p6.1 2 (by omega) (by omega) (by omega) (by omega) (by omega) (by omega) (by omega) (by omega) (by omega)).trans ((o4.1 2 (by omega) (by omega) (by omega) (by omega) (by omega)).trans rfl)
      have qA : ∀ k, k ≠ 8 → oA M' k = oA M k := fun k hk => (p6.2.1 k hk).trans (oA0 k)
      have qJ : ∀ k, oJ M' k = oJ M k := fun k => (p6.2.2 k).trans (oJ0 k)
      have fr : ∀ j, j ≠ 3 → oI B' j = oI V9 j := fun j hj => (al_lines V2 fu _ _ _ _ _ p2 j hj).trans (by rw [oI_sI, if_neg hj])
      obtain ⟨h7, e7⟩ := hC.2
      have bk' : BK B' M' := by
        have := hB.c (M' := M') (qI 38 (by omega) (by omega)) (qA 37 (by omega))
        unfold BK at this ⊢
        rw [fr 4 (by omega), fr 5 (by omega), fr 6 (by omega), fr 7 (by omega), fr 8 (by omega)]
        exact this
      refine ⟨(-2 : Int32) - nI pl, sI V0 12 (nI k), B', sI A' 1 (0 : Int32), V13, V3, V5, K, M', ?_, ?_, ?_⟩
      · rw [p2', e_bd, e_bd, e9, e10, oI_sI, if_pos rfl, if_neg nz]
      · rw [p8, k7]; rfl
      · exact H0.parse (V1' := sI A' 1 (0 : Int32)) (fun j h1 h2 => qI j (by omega) (by omega)) (qI 38 (by omega) (by omega)) (fun j hj => qA j (by omega)) ⟨h7, (qA 7 (by omega)).trans e7⟩ (fun j _ => qJ j) (fun j _ => by rw [qJ 9]) ((qA 6 (by omega)).trans c4) ⟨tb, 0, ⟨q2.1, q2.2.1, q2.2.2⟩, by omega, rfl, qz⟩ k5.symm hA bk'
end
