/-! what class and reference have in common between two calls -/
def CO (N : Nat) (V2 V3 M : Ob) (g nn : Nat → Nat) : Prop := WQ g ∧ WS N g ∧ g 121 ≤ 400 ∧ oA M 6 = Nf g ∧ QR V2 g ∧ SR V3 g ∧ NR V2 M g nn ∧ ∀ j, 390 ≤ j → g j = 0
def TA (V1 M : Ob) : Prop := ∃ tb z, TB V1 M tb ∧ z ≤ 940 ∧ oI V1 1 = nI z ∧ oI M 2 = nI z
def SE (V4 : Ob) (g : Nat → Nat) : Prop := AW V4 ∧ ((g 209 = 0 ∧ oI V4 4 = nI 0) ∨ ∃ f s o, CG g f s ∧ CS V4 f s ∧ 1 ≤ s ∧ s ≤ 39 ∧ EV f 0 s ∧ (∀ i, i < s → VF g (f i)) ∧ lcn f s ≤ 20 ∧ 1 ≤ o ∧ o ≤ 20 ∧ oI V4 4 = nI o)
def Fl1 (V0 M : Ob) (a b c : Nat) : Prop := (oI M b = nI 0 ∧ oI V0 a = -nI 1) ∨ (oI M b = nI 1 ∧ oI V0 a = oI M c)
def Fla (V0 M : Ob) : Prop := oI V0 12 = oI M 15 ∧ Fl1 V0 M 13 25 24 ∧ Fl1 V0 M 14 30 29 ∧ Fl1 V0 M 15 32 31
def BK (V9 M : Ob) : Prop := (oI M 38 = nI 0 ∧ oI V9 4 = nI 0) ∨ (oI M 38 = nI 1 ∧ oI V9 4 = nI 1 ∧ oI V9 5 = oA M 37 0 ∧ oI V9 6 = oA M 37 1 ∧ oI V9 7 = oA M 37 2 ∧ oI V9 8 = oA M 37 3)
def TG (V10 M : Ob) : Prop := ∃ s : (Nat → Nat) × Nat, s.2 ≤ 79 ∧ TC V10 s ∧ oI M 34 = nI s.2 ∧ ∀ i, i < s.2 → oA M 33 i = nI (s.1 i)
def CT (M : Ob) : Prop := (∀ k, k < 22 → oJ M 10 k = lN (wcN k)) ∧ ∃ h, oA M 7 = Nf h
/-- an image -/
def Img (N : Nat) (A Q S T M : Ob) (k : Nat) : Prop := AW T ∧ ((oA M 48 k = nI 0 ∧ oI A 3 = nI 0) ∨ (oA M 48 k = nI 1 ∧ oI A 3 = nI 1 ∧ ∃ g nn, WQ g ∧ WS N g ∧ g 121 ≤ 400 ∧ QR Q g ∧ SR S g ∧ SE T g ∧ (∀ j, 390 ≤ j → g j = 0) ∧ (∀ j, j < 390 → oA M 46 (390 * k + j) = nI (g j)) ∧ NR Q (sJ M 9 (fun j => oJ M 47 (18 * k + j))) g nn))
def REg (N : Nat) (V0 V1 V2 V3 V4 V5 V9 V10 V12 : Ob) (K IM IQ IS IN : Nat → Ob) (M O : Ob) (g nn : Nat → Nat) : Prop :=
  CO N V2 V3 M g nn ∧ TA V1 M ∧ PR N V5 K M g ∧ SE V4 g ∧ AW V12 ∧ Fla V0 M ∧ BK V9 M ∧ TG V10 M ∧ CT M ∧ (∀ k, k < 2 → Img N (IM k) (IQ k) (IS k) (IN k) M k) ∧ oI O 1 = nI 1
def RE (N : Nat) (V0 V1 V2 V3 V4 V5 V9 V10 V12 : Ob) (K IM IQ IS IN : Nat → Ob) (M O : Ob) : Prop := ∃ g nn, REg N V0 V1 V2 V3 V4 V5 V9 V10 V12 K IM IQ IS IN M O g nn
/-- the reference's fields that count, but its row and its past -/
def E0 (M M' : Ob) : Prop := oI M' 2 = oI M 2 ∧ oI M' 15 = oI M 15 ∧ oI M' 24 = oI M 24 ∧ oI M' 25 = oI M 25 ∧ oI M' 29 = oI M 29 ∧ oI M' 30 = oI M 30 ∧ oI M' 31 = oI M 31 ∧ oI M' 32 = oI M 32 ∧ oI M' 34 = oI M 34 ∧ oI M' 38 = oI M 38 ∧ oA M' 1 = oA M 1 ∧ oA M' 7 = oA M 7 ∧ oA M' 33 = oA M 33 ∧ oA M' 37 = oA M 37 ∧ oA M' 46 = oA M 46 ∧ oA M' 48 = oA M 48 ∧ oJ M' 9 = oJ M 9 ∧ oJ M' 10 = oJ M 10 ∧ oJ M' 47 = oJ M 47
theorem TB.c {V1 M M' : Ob} {tb : Nat → Nat} (e : oA M' 1 = oA M 1) (H : TB V1 M tb) : TB V1 M' tb := ⟨H.1, fun i => by rw [e]; exact H.2.1 i, H.2.2⟩
theorem TA.c {V1 M M' : Ob} (e : oA M' 1 = oA M 1) (e2 : oI M' 2 = oI M 2) (H : TA V1 M) : TA V1 M' := by
  obtain ⟨tb, z, a, b, c, d⟩ := H
  exact ⟨tb, z, a.c e, b, c, e2.trans d⟩
theorem NR.c {V M M' : Ob} {g nn : Nat → Nat} (e : oJ M' 9 = oJ M 9) (H : NR V M g nn) : NR V M' g nn := by
  obtain ⟨a, b, c⟩ := H
  exact ⟨fun i hi => ⟨(a i hi).1, by rw [e]; exact (a i hi).2.1, (a i hi).2.2⟩, fun i hi => ⟨(b i hi).1, by rw [e]; exact (b i hi).2.1, (b i hi).2.2⟩, fun i hi => ⟨(c i hi).1, by rw [e]; exact (c i hi).2.1, (c i hi).2.2⟩⟩
theorem NR.c9 {V M M' : Ob} {g nn : Nat → Nat} (hQ : WQ g) (e : ∀ j, j < 18 → oJ M' 9 j = oJ M 9 j) (H : NR V M g nn) : NR V M' g nn := by
  obtain ⟨a, b, c⟩ := H
  have g0 := w_g0 hQ
  have g1 := w_g1 hQ
  have g3 := w_g3 hQ
  exact ⟨fun i hi => ⟨(a i hi).1, by rw [e _ (by omega)]; exact (a i hi).2.1, (a i hi).2.2⟩, fun i hi => ⟨(b i hi).1, by rw [e _ (by omega)]; exact (b i hi).2.1, (b i hi).2.2⟩, fun i hi => ⟨(c i hi).1, by rw [e _ (by omega)]; exact (c i hi).2.1, (c i hi).2.2⟩⟩
theorem NR.cv {V W M : Ob} {g nn : Nat → Nat} (hQ : WQ g) (e1 : ∀ i, i < 8 → oJ W 1 i = oJ V 1 i) (e5 : ∀ i, i < 6 → oJ W 5 i = oJ V 5 i) (e12 : ∀ i, i < 4 → oJ W 12 i = oJ V 12 i) (H : NR V M g nn) : NR W M g nn := by
  obtain ⟨a, b, c⟩ := H
  have g0 := w_g0 hQ
  have g1 := w_g1 hQ
  have g3 := w_g3 hQ
  exact ⟨fun i hi => ⟨by rw [e1 _ (by omega)]; exact (a i hi).1, (a i hi).2⟩, fun i hi => ⟨by rw [e5 _ (by omega)]; exact (b i hi).1, (b i hi).2⟩, fun i hi => ⟨by rw [e12 _ (by omega)]; exact (c i hi).1, (c i hi).2⟩⟩
theorem NR.of {V M : Ob} {g h nn : Nat → Nat} (e : Sm g h) (H : NR V M g nn) : NR V M h nn := by
  unfold NR at H ⊢
  rw [e 0 (by omega), e 1 (by omega), e 3 (by omega)]
  exact H
theorem VF.of {g h : Nat → Nat} {c : Cd} (e : Sm g h) (H : VF g c) : VF h c := by
  unfold VF at H ⊢
  rw [e 1 (by omega)]
  exact H
theorem CG.of {g h : Nat → Nat} {f : Nat → Cd} {s : Nat} (e : Sm g h) (H : CG g f s) : CG h f s := by
  unfold CG at H ⊢
  rw [e 209 (by omega)]
  refine ⟨H.1, fun i hi => ?_⟩
  rw [e _ (by omega), e _ (by omega), e _ (by omega)]
  exact H.2 i hi
theorem SE.of {V4 : Ob} {g h : Nat → Nat} (e : Sm g h) (H : SE V4 g) : SE V4 h := by
  obtain ⟨a, ⟨b, c⟩ | ⟨f, s, o, b1, b2, b3, b4, b5, b6, b7, b8⟩⟩ := H
  · exact ⟨a, Or.inl ⟨(e 209 (by omega)).trans b, c⟩⟩
  · exact ⟨a, Or.inr ⟨f, s, o, b1.of e, b2, b3, b4, b5, fun i hi => (b6 i hi).of e, b7, b8⟩⟩
theorem PR.of {N N' : Nat} {V5 : Ob} {K : Nat → Ob} {M M' : Ob} {g h : Nat → Nat} (hN : N ≤ N') (e : Sm g h) (e23 : oI M' 23 = oI M 23) (e21 : oA M' 21 = oA M 21) (H : PR N V5 K M g) : PR N' V5 K M' h := by
  obtain ⟨m, x, a1, a2, a3, a4, a5, a6⟩ := H
  refine ⟨m, x, a1, a2, e23.trans a3, a4, a5, fun j hj => ?_⟩
  obtain ⟨i, b1, b2, b3, b4, b5⟩ := a6 j hj
  exact ⟨i, fun k hk => (b1 k hk).trans (e k hk).symm, b2.mono hN, b3, b4, fun k hk => by rw [e21]; exact b5 k hk⟩
theorem Fl1.c {V0 M M' : Ob} {a b c : Nat} (e1 : oI M' b = oI M b) (e2 : oI M' c = oI M c) (H : Fl1 V0 M a b c) : Fl1 V0 M' a b c := by
  unfold Fl1 at H ⊢
  rw [e1, e2]; exact H
theorem BK.c {V9 M M' : Ob} (e1 : oI M' 38 = oI M 38) (e2 : oA M' 37 = oA M 37) (H : BK V9 M) : BK V9 M' := by
  unfold BK at H ⊢
  rw [e1, e2]; exact H
theorem TG.c {V10 M M' : Ob} (e1 : oI M' 34 = oI M 34) (e2 : oA M' 33 = oA M 33) (H : TG V10 M) : TG V10 M' := by
  unfold TG at H ⊢
  rw [e1, e2]; exact H
theorem CT.c {M M' : Ob} (e1 : oJ M' 10 = oJ M 10) (e2 : oA M' 7 = oA M 7) (H : CT M) : CT M' := by
  unfold CT at H ⊢
  rw [e1, e2]; exact H
theorem Img.c {N N' : Nat} {A Q S T M M' : Ob} {k : Nat} (hN : N ≤ N') (e1 : oA M' 48 = oA M 48) (e2 : oA M' 46 = oA M 46) (e3 : oJ M' 47 = oJ M 47) (H : Img N A Q S T M k) : Img N' A Q S T M' k := by
  unfold Img at H ⊢
  rw [e1, e2, e3]
  obtain ⟨a, b | ⟨b1, b2, g, nn, b3, b4, b5, b6, b7, b8, b9, b10, b11⟩⟩ := H
  · exact ⟨a, Or.inl b⟩
  · exact ⟨a, Or.inr ⟨b1, b2, g, nn, b3, b4.mono hN, b5, b6, b7, b8, b9, b10, b11⟩⟩
section
variable {N N' : Nat} {V0 V1 V2 V3 V4 V5 V9 V10 V12 V3' V5' M M' O O' : Ob} {K K' IM IQ IS IN : Nat → Ob} {g g' nn : Nat → Nat}
theorem E0.fla (e : E0 M M') (H : Fla V0 M) : Fla V0 M' := by
  obtain ⟨a1, a2, a3, a4, a5, a6, a7, a8, a9⟩ := e
  obtain ⟨b1, b2, b3, b4⟩ := H
  exact ⟨b1.trans a2.symm, b2.c a4 a3, b3.c a6 a5, b4.c a8 a7⟩
/-- an act: another state, and perhaps another past -/
theorem REg.act (H : REg N V0 V1 V2 V3 V4 V5 V9 V10 V12 K IM IQ IS IN M O g nn) (hN : N ≤ N') (e : E0 M M') (h6 : oA M' 6 = Nf g') (sm_ : Sm g g') (hW : WS N' g') (hd : g' 121 ≤ 400) (hS : SR V3' g') (hP : PR N V5' K' M' g) (hO : oI O' 1 = nI 1) : REg N' V0 V1 V2 V3' V4 V5' V9 V10 V12 K' IM IQ IS IN M' O' g' nn := by
  obtain ⟨⟨c1, c2, c3, c4, c5, c6, c7, c8⟩, hT, hPP, hE, hA, hF, hB, hG, hC, hI, _⟩ := H
  have hF' := e.fla hF
  obtain ⟨a1, a2, a3, a4, a5, a6, a7, a8, a9, a10, a11, a12, a13, a14, a15, a16, a17, a18, a19⟩ := e
  exact ⟨⟨WQ.of sm_ c1, hW, hd, h6, QR.of sm_ c1 c5, hS, (c7.c a17).of sm_, fun j hj => (sm_ j (by omega)).trans (c8 j hj)⟩, hT.c a11 a1, hP.of hN sm_ rfl rfl, hE.of sm_, hA, hF', hB.c a10 a14, hG.c a9 a13, hC.c a18 a12, fun k hk => (hI k hk).c hN a16 a15 a19, hO⟩
/-- nothing that counts has changed -/
theorem REg.same (H : REg N V0 V1 V2 V3 V4 V5 V9 V10 V12 K IM IQ IS IN M O g nn) (hN : N ≤ N') (e : E0 M M') (h6 : oA M' 6 = oA M 6) (h21 : oA M' 21 = oA M 21) (h23 : oI M' 23 = oI M 23) (hO : oI O' 1 = nI 1) : RE N' V0 V1 V2 V3 V4 V5 V9 V10 V12 K IM IQ IS IN M' O' := by
  have H' := H
  obtain ⟨⟨c1, c2, c3, c4, c5, c6, c7, c8⟩, hT, hPP, _⟩ := H
  exact ⟨g, nn, H'.act hN e (h6.trans c4) (Sm.refl g) (c2.mono hN) c3 c6 (hPP.of (Nat.le_refl _) (Sm.refl g) h23 h21) hO⟩
theorem REg.s0 (H : REg N V0 V1 V2 V3 V4 V5 V9 V10 V12 K IM IQ IS IN M O g nn) (v : Int32) : RE (N + 360) V0 V1 V2 V3 V4 V5 V9 V10 V12 K IM IQ IS IN (sI M 0 v) O :=
  H.same (by omega) ⟨rfl, rfl, rfl, rfl, rfl, rfl, rfl, rfl, rfl, rfl, rfl, rfl, rfl, rfl, rfl, rfl, rfl, rfl, rfl⟩ rfl rfl rfl H.2.2.2.2.2.2.2.2.2.2
end
/-! who and what is meant -/
theorem in_c (b : Int32) (lo hi : Nat) (hl : lo < 2147483648) (hh : hi < 100000) : (b < nI lo ∧ pX11_isIn b (nI lo) (nI hi) = some (nI 0)) ∨ (¬ b < nI lo ∧ ¬ b ≤ nI hi ∧ pX11_isIn b (nI lo) (nI hi) = some (nI 0)) ∨ (∃ n, lo ≤ n ∧ n ≤ hi ∧ b = nI n ∧ ¬ b < nI lo ∧ b ≤ nI hi ∧ pX11_isIn b (nI lo) (nI hi) = some (nI 1)) := by
  unfold pX11_isIn
  by_cases c1 : b < nI lo
  · exact Or.inl ⟨c1, by rw [if_pos c1]; rfl⟩
  · by_cases c2 : nI hi < b
    · refine Or.inr (Or.inl ⟨c1, fun h => ?_, by rw [if_neg c1, if_pos c2]; rfl⟩)
      rw [Int32.lt_iff_toInt_lt] at c2
      rw [Int32.le_iff_toInt_le] at h
      omega
    · have hb : b ≤ nI hi := by
        rw [Int32.lt_iff_toInt_lt] at c2
        rw [Int32.le_iff_toInt_le]
        omega
      refine Or.inr (Or.inr ?_)
      rw [Int32.lt_iff_toInt_lt, nI_toInt hl] at c1
      rw [Int32.lt_iff_toInt_lt, nI_toInt (by omega)] at c2
      refine ⟨b.toInt.toNat, by omega, by omega, ?_, ?_, hb, ?_⟩
      · apply Int32.toInt_inj.mp
        rw [nI_toInt (by omega)]
        omega
      · rw [Int32.lt_iff_toInt_lt, nI_toInt hl]; exact c1
      · rw [if_neg (by rw [Int32.lt_iff_toInt_lt, nI_toInt hl]; exact c1), if_neg (by rw [Int32.lt_iff_toInt_lt, nI_toInt (by omega)]; exact c2)]; rfl
theorem sub1_int {n : Nat} (hn : n < 1000) : (nI n - nI 1).toInt = (n : Int) - 1 := by
  cases n with
  | zero => decide
  | succ n =>
    rw [e_sub (by omega), nI_toInt (by omega)]
    omega
theorem in_p (x : Int32) (n : Nat) (hn : n < 1000) : (x < nI 0 ∧ pX11_isIn x (nI 0) (nI n - nI 1) = some (nI 0)) ∨ (¬ x < nI 0 ∧ nI n ≤ x ∧ pX11_isIn x (nI 0) (nI n - nI 1) = some (nI 0)) ∨ (∃ j, j < n ∧ x = nI j ∧ ¬ x < nI 0 ∧ ¬ nI n ≤ x ∧ pX11_isIn x (nI 0) (nI n - nI 1) = some (nI 1)) := by
  unfold pX11_isIn
  have s1 := sub1_int hn
  rcases i_cases x n (by omega) with h | ⟨h0, h1⟩ | ⟨j, h1, rfl⟩
  · exact Or.inl ⟨h, by rw [if_pos (show x < nI 0 from h)]; rfl⟩
  · refine Or.inr (Or.inl ⟨h0, h1, ?_⟩)
    have h2 : nI n - nI 1 < x := by
      rw [Int32.lt_iff_toInt_lt, s1]
      rw [Int32.le_iff_toInt_le, nI_toInt (by omega)] at h1
      omega
    rw [if_neg (show ¬ x < nI 0 from h0), if_pos h2]; rfl
  · have h0 : ¬ nI j < nI 0 := nI_nlt (Nat.zero_le _) (by omega)
    refine Or.inr (Or.inr ⟨j, h1, rfl, h0, nI_ge h1 (by omega), ?_⟩)
    have h2 : ¬ nI n - nI 1 < nI j := by
      rw [Int32.lt_iff_toInt_lt, s1, nI_toInt (by omega)]
      omega
    rw [if_neg h0, if_neg h2]; rfl
section
variable {V0 V2 M : Ob} {g : Nat → Nat}
theorem p_isP (hQ : WQ g) (hR : QR V2 g) (h6 : oA M 6 = Nf g) (x : Int32) : (pX10_isPerson V0 V2 x = some (nI 0) ∧ pX11_isPerson M x = some (nI 0)) ∨ (∃ q, q < g 1 ∧ x = nI q ∧ pX10_isPerson V0 V2 x = some (nI 1) ∧ pX11_isPerson M x = some (nI 1)) := by
  have g1 := w_g1 hQ
  unfold pX10_isPerson pX11_isPerson
  rw [q_4 hR, h6, Nf_app, l_0, l_1]
  rcases in_p x (g 1) (by omega) with ⟨a, b⟩ | ⟨a, b, c⟩ | ⟨j, a, b, c, d, e⟩
  · exact Or.inl ⟨by rw [if_pos a], by rw [b, e_bd, e_z0, e_gd]⟩
  · exact Or.inl ⟨by rw [if_neg a, if_pos b], by rw [c, e_bd, e_z0, e_gd]⟩
  · exact Or.inr ⟨j, a, b, by rw [if_neg c, if_neg d], by rw [e, e_bd, e_z1, e_gd]⟩
theorem p_isT (hQ : WQ g) (hR : QR V2 g) (h6 : oA M 6 = Nf g) (x : Int32) : (pX10_isThing V0 V2 x = some (nI 0) ∧ pX11_isThing M x = some (nI 0)) ∨ (∃ q, q < g 0 ∧ x = nI q ∧ pX10_isThing V0 V2 x = some (nI 1) ∧ pX11_isThing M x = some (nI 1)) := by
  have g1 := w_g0 hQ
  unfold pX10_isThing pX11_isThing
  rw [q_0 hR, h6, Nf_app, l_0, l_1]
  rcases in_p x (g 0) (by omega) with ⟨a, b⟩ | ⟨a, b, c⟩ | ⟨j, a, b, c, d, e⟩
  · exact Or.inl ⟨by rw [if_pos a], by rw [b, e_bd, e_z0, e_gd]⟩
  · exact Or.inl ⟨by rw [if_neg a, if_pos b], by rw [c, e_bd, e_z0, e_gd]⟩
  · exact Or.inr ⟨j, a, b, by rw [if_neg c, if_neg d], by rw [e, e_bd, e_z1, e_gd]⟩
theorem p_isB (hQ : WQ g) (hR : QR V2 g) (h6 : oA M 6 = Nf g) (x : Int32) : (pX10_isBed V0 V2 x = some (nI 0) ∧ pX11_isBed M x = some (nI 0)) ∨ (∃ q, q < g 3 ∧ x = nI q ∧ pX10_isBed V0 V2 x = some (nI 1) ∧ pX11_isBed M x = some (nI 1)) := by
  have g1 := w_g3 hQ
  unfold pX10_isBed pX11_isBed
  rw [q_11 hR, h6, Nf_app, l_0, l_1]
  rcases in_p x (g 3) (by omega) with ⟨a, b⟩ | ⟨a, b, c⟩ | ⟨j, a, b, c, d, e⟩
  · exact Or.inl ⟨by rw [if_pos a], by rw [b, e_bd, e_z0, e_gd]⟩
  · exact Or.inl ⟨by rw [if_neg a, if_pos b], by rw [c, e_bd, e_z0, e_gd]⟩
  · exact Or.inr ⟨j, a, b, by rw [if_neg c, if_neg d], by rw [e, e_bd, e_z1, e_gd]⟩
end
