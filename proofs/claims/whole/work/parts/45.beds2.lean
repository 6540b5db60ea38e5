/-! the reference's table of sets -/
theorem e_xor (a b : Nat) : nI a ^^^ nI b = nI (a ^^^ b) := by
  apply Int32.toBitVec_inj.mp
  rw [Int32.toBitVec_xor]
  show BitVec.ofNat 32 a ^^^ BitVec.ofNat 32 b = BitVec.ofNat 32 (a ^^^ b)
  apply BitVec.eq_of_toNat_eq
  simp [BitVec.toNat_ofNat, Nat.xor_mod_two_pow]
theorem e_and (a b : Nat) : nI a &&& nI b = nI (a &&& b) := by
  apply Int32.toBitVec_inj.mp
  rw [Int32.toBitVec_and]
  show BitVec.ofNat 32 a &&& BitVec.ofNat 32 b = BitVec.ofNat 32 (a &&& b)
  apply BitVec.eq_of_toNat_eq
  simp [BitVec.toNat_ofNat, Nat.and_mod_two_pow]
/-- a cell that says whether -/
def yes (x : Int32) (P : Prop) : Prop := (x = nI 1 ∧ P) ∨ (x = nI 0 ∧ ¬ P)
theorem yes.iff {x : Int32} {P Q : Prop} (h : yes x P) (e : P ↔ Q) : yes x Q := h.imp (fun a => ⟨a.1, e.mp a.2⟩) (fun a => ⟨a.1, fun q => a.2 (e.mpr q)⟩)
def lastb (b : Nat) : Nat := if 8 ≤ b then 3 else if 4 ≤ b then 2 else if 2 ≤ b then 1 else 0
theorem lastA : ∀ b, b < 16 → 0 < b → lastb b < 4 ∧ b.testBit (lastb b) = true ∧ b ^^^ 2 ^ lastb b < b ∧ ∀ j, j < 4 → (b ^^^ 2 ^ lastb b).testBit j = (b.testBit j && decide (j ≠ lastb b)) := by decide +kernel
theorem last_tb {b : Nat} (hb : b < 16) (h0 : 0 < b) (j : Nat) : (b ^^^ 2 ^ lastb b).testBit j = (b.testBit j && decide (j ≠ lastb b)) := by
  obtain ⟨h1, h2, h3, h4⟩ := lastA b hb h0
  by_cases c : j < 4
  · exact h4 j c
  · have e : (2 : Nat) ^ 4 ≤ 2 ^ j := Nat.pow_le_pow_right (by decide) (by omega)
    have e2 : b < 2 ^ j := by omega
    rw [Nat.testBit_lt_two_pow e2, Nat.testBit_lt_two_pow (by omega)]; rfl
theorem r_last_z (S : Ob) (l1 l2 : Int32) : ∀ (n : Nat) (x : Int32), pX11_fills_l2 S l1 l2 n x = pX11_fills_l2 Z0 l1 0 n x
  | 0, _ => rfl
  | n + 1, x => by rw [pX11_fills_l2, pX11_fills_l2]; simp only [r_last_z S l1 l2 n]
theorem r_lastA : ∀ b, b < 16 → 0 < b → pX11_fills_l2 Z0 (nI b) 0 fu (nI 3) = some (nI (lastb b)) := by decide +kernel
section
variable {N : Nat} {g : Nat → Nat} {M V V2 W : Ob}
/-- the table's part for the beds b -/
def TT (Z : Nat → Int32) (it : Nat → Nat) (n : Nat) (lk : Nat → Nat) (b : Nat) : Prop := ∀ s, s < 2 ^ n → yes (Z (1024 * b + s)) (PA it n lk b s)
theorem xor_lt {o s n : Nat} (ho : o < 2 ^ n) (hs : s < 2 ^ n) : s ^^^ o < 2 ^ n := Nat.xor_lt_two_pow hs ho
theorem r_own {it lk : Nat → Nat} {n b l v s : Nat} (hn : n ≤ 10) (hs : s < 2 ^ n) (hb : b < 16) (hl : l < 4) (hv : v < 1000) (h27 : ∀ t, t < 2 ^ n → oA M 27 t = nI (ss it n t)) (hss : ∀ t, ss it n t < 1000) (hT : TT (oA M 26) it n lk (b ^^^ 2 ^ l)) (hbl : b ^^^ 2 ^ l < 16) (l5 : Int32) :
    ∀ (f o : Nat), o < f → o &&& s = o → ((∃ t, 0 < t ∧ t &&& s = t ∧ v ≤ ss it n t ∧ PA it n lk (b ^^^ 2 ^ l) (s ^^^ t)) → ∃ t, 0 < t ∧ t ≤ o ∧ t &&& s = t ∧ v ≤ ss it n t ∧ PA it n lk (b ^^^ 2 ^ l) (s ^^^ t)) →
      ∃ x, pX11_fills_l59 M (nI b) (nI n) (nI l) (nI v) l5 (nI s) f (nI 0) (nI o) = some x ∧ yes x (∃ t, 0 < t ∧ t &&& s = t ∧ v ≤ ss it n t ∧ PA it n lk (b ^^^ 2 ^ l) (s ^^^ t))
  | 0, _, h, _, _ => by omega
  | f + 1, o, hf, ho, hw => by
    have p10 : 2 ^ n ≤ 1024 := Nat.pow_le_pow_right (n := 2) (by decide) hn
    have hos : o ≤ s := by rw [← ho]; exact Nat.and_le_right
    rw [pX11_fills_l59]
    by_cases c0 : o = 0
    · subst c0
      simp (disch := omega) only [l_0, l_1, l_2, l_3, l_4, l_5, l_6, l_7, l_8, l_9, l_10, l_11, l_12, l_13, l_14, l_15, l_16, l_17, l_18, l_19, l_20, l_21, l_22, l_23, l_24, l_25, l_26, l_27, l_28, l_29, l_30, l_31, l_32, l_33, l_34, l_35, l_36, l_40, l_41, l_48, l_56, l_57, l_59, l_60, l_61, l_62, l_63, l_79, l_81, l_88, l_93, l_97, l_99, l_105, l_117, l_121, l_122, l_125, l_127, l_131, l_179, l_185, l_193, l_197, l_200, l_201, l_210, l_255, l_390, l_400, l_616, l_900, l_940, l_999, l_1000, l_1024, e_ltT, e_ltF, e_leT, e_leF, e_eqT, e_eqF, e_cl, e_in, e_gd, e_bd, e_ne, e_en, e_nlt, e_ltn, e_len, e_nle, e_nn, e_z0, e_z1, nI_add, pk_mul, e_sub, Nf_app, e_refl, e_reflN, reduceIte, ite_true_, ite_false_, hn]
      refine ⟨nI 0, rfl, Or.inr ⟨rfl, fun h => ?_⟩⟩
      obtain ⟨t, h1, h2, _⟩ := hw h
      omega
    · have h27o := h27 o (by omega)
      have hss_o := hss o
      have ea : nI (o - 1) &&& nI s = nI ((o - 1) &&& s) := e_and _ _
      have nx : ¬ (v ≤ ss it n o ∧ PA it n lk (b ^^^ 2 ^ l) (s ^^^ o)) → ∃ x, pX11_fills_l59 M (nI b) (nI n) (nI l) (nI v) l5 (nI s) f (nI 0) (nI ((o - 1) &&& s)) = some x ∧ yes x (∃ t, 0 < t ∧ t &&& s = t ∧ v ≤ ss it n t ∧ PA it n lk (b ^^^ 2 ^ l) (s ^^^ t)) := fun hno =>
        r_own hn hs hb hl hv h27 hss hT hbl l5 f ((o - 1) &&& s) (by have : (o - 1) &&& s ≤ o - 1 := Nat.and_le_left; omega) (sub_land _ _) (fun hex => by
          obtain ⟨t, h1, h2, h3, h4, h5⟩ := hw hex
          have hne : t ≠ o := fun e => hno ⟨by rw [← e]; exact h4, by rw [← e]; exact h5⟩
          exact ⟨t, h1, sub_next o o s t (Nat.le_refl _) ho h3 (by omega), h3, h4, h5⟩)
      by_cases c1 : v ≤ ss it n o
      · have hx := xor_lt (n := n) (o := o) (s := s) (by omega) hs
        have hcell := hT (s ^^^ o) hx
        rcases hcell with ⟨e1, e2⟩ | ⟨e1, e2⟩
        · simp (disch := omega) only [l_0, l_1, l_2, l_3, l_4, l_5, l_6, l_7, l_8, l_9, l_10, l_11, l_12, l_13, l_14, l_15, l_16, l_17, l_18, l_19, l_20, l_21, l_22, l_23, l_24, l_25, l_26, l_27, l_28, l_29, l_30, l_31, l_32, l_33, l_34, l_35, l_36, l_40, l_41, l_48, l_56, l_57, l_59, l_60, l_61, l_62, l_63, l_79, l_81, l_88, l_93, l_97, l_99, l_105, l_117, l_121, l_122, l_125, l_127, l_131, l_179, l_185, l_193, l_197, l_200, l_201, l_210, l_255, l_390, l_400, l_616, l_900, l_940, l_999, l_1000, l_1024, e_ltT, e_ltF, e_leT, e_leF, e_eqT, e_eqF, e_cl, e_in, e_gd, e_bd, e_ne, e_en, e_nlt, e_ltn, e_len, e_nle, e_nn, e_z0, e_z1, nI_add, pk_mul, e_sub, Nf_app, e_refl, e_reflN, reduceIte, ite_true_, ite_false_, h27o, e_shl, e_xor, e1, pX11_fills_j109, ea]
          have fin : ∃ x, pX11_fills_l59 M (nI b) (nI n) (nI l) (nI v) l5 (nI s) f (nI 1) (nI ((o - 1) &&& s)) = some x ∧ x = nI 1 := by
            obtain ⟨f', rfl⟩ : ∃ f', f = f' + 1 := ⟨f - 1, by omega⟩
            rw [pX11_fills_l59]
            have hlt : (o - 1) &&& s ≤ o - 1 := Nat.and_le_left
            by_cases c2 : (o - 1) &&& s ≤ 0
            · simp (disch := omega) only [l_0, l_1, l_2, l_3, l_4, l_5, l_6, l_7, l_8, l_9, l_10, l_11, l_12, l_13, l_14, l_15, l_16, l_17, l_18, l_19, l_20, l_21, l_22, l_23, l_24, l_25, l_26, l_27, l_28, l_29, l_30, l_31, l_32, l_33, l_34, l_35, l_36, l_40, l_41, l_48, l_56, l_57, l_59, l_60, l_61, l_62, l_63, l_79, l_81, l_88, l_93, l_97, l_99, l_105, l_117, l_121, l_122, l_125, l_127, l_131, l_179, l_185, l_193, l_197, l_200, l_201, l_210, l_255, l_390, l_400, l_616, l_900, l_940, l_999, l_1000, l_1024, e_ltT, e_ltF, e_leT, e_leF, e_eqT, e_eqF, e_cl, e_in, e_gd, e_bd, e_ne, e_en, e_nlt, e_ltn, e_len, e_nle, e_nn, e_z0, e_z1, nI_add, pk_mul, e_sub, Nf_app, e_refl, e_reflN, reduceIte, ite_true_, ite_false_, hn]; exact ⟨_, rfl, rfl⟩
            · simp (disch := omega) only [l_0, l_1, l_2, l_3, l_4, l_5, l_6, l_7, l_8, l_9, l_10, l_11, l_12, l_13, l_14, l_15, l_16, l_17, l_18, l_19, l_20, l_21, l_22, l_23, l_24, l_25, l_26, l_27, l_28, l_29, l_30, l_31, l_32, l_33, l_34, l_35, l_36, l_40, l_41, l_48, l_56, l_57, l_59, l_60, l_61, l_62, l_63, l_79, l_81, l_88, l_93, l_97, l_99, l_105, l_117, l_121, l_122, l_125, l_127, l_131, l_179, l_185, l_193, l_197, l_200, l_201, l_210, l_255, l_390, l_400, l_616, l_900, l_940, l_999, l_1000, l_1024, e_ltT, e_ltF, e_leT, e_leF, e_eqT, e_eqF, e_cl, e_in, e_gd, e_bd, e_ne, e_en, e_nlt, e_ltn, e_len, e_nle, e_nn, e_z0, e_z1, nI_add, pk_mul, e_sub, Nf_app, e_refl, e_reflN, reduceIte, ite_true_, ite_false_, hn]; exact ⟨_, rfl, rfl⟩
          obtain ⟨x, x1, x2⟩ := fin
          exact ⟨x, x1, Or.inl ⟨x2, o, by omega, ho, c1, e2⟩⟩
        · simp (disch := omega) only [l_0, l_1, l_2, l_3, l_4, l_5, l_6, l_7, l_8, l_9, l_10, l_11, l_12, l_13, l_14, l_15, l_16, l_17, l_18, l_19, l_20, l_21, l_22, l_23, l_24, l_25, l_26, l_27, l_28, l_29, l_30, l_31, l_32, l_33, l_34, l_35, l_36, l_40, l_41, l_48, l_56, l_57, l_59, l_60, l_61, l_62, l_63, l_79, l_81, l_88, l_93, l_97, l_99, l_105, l_117, l_121, l_122, l_125, l_127, l_131, l_179, l_185, l_193, l_197, l_200, l_201, l_210, l_255, l_390, l_400, l_616, l_900, l_940, l_999, l_1000, l_1024, e_ltT, e_ltF, e_leT, e_leF, e_eqT, e_eqF, e_cl, e_in, e_gd, e_bd, e_ne, e_en, e_nlt, e_ltn, e_len, e_nle, e_nn, e_z0, e_z1, nI_add, pk_mul, e_sub, Nf_app, e_refl, e_reflN, reduceIte, ite_true_, ite_false_, h27o, e_shl, e_xor, e1, pX11_fills_j108, pX11_fills_j109, ea]
          exact nx (fun h => e2 h.2)
      · simp (disch := omega) only [l_0, l_1, l_2, l_3, l_4, l_5, l_6, l_7, l_8, l_9, l_10, l_11, l_12, l_13, l_14, l_15, l_16, l_17, l_18, l_19, l_20, l_21, l_22, l_23, l_24, l_25, l_26, l_27, l_28, l_29, l_30, l_31, l_32, l_33, l_34, l_35, l_36, l_40, l_41, l_48, l_56, l_57, l_59, l_60, l_61, l_62, l_63, l_79, l_81, l_88, l_93, l_97, l_99, l_105, l_117, l_121, l_122, l_125, l_127, l_131, l_179, l_185, l_193, l_197, l_200, l_201, l_210, l_255, l_390, l_400, l_616, l_900, l_940, l_999, l_1000, l_1024, e_ltT, e_ltF, e_leT, e_leF, e_eqT, e_eqF, e_cl, e_in, e_gd, e_bd, e_ne, e_en, e_nlt, e_ltn, e_len, e_nle, e_nn, e_z0, e_z1, nI_add, pk_mul, e_sub, Nf_app, e_refl, e_reflN, reduceIte, ite_true_, ite_false_, h27o, pX11_fills_j108, pX11_fills_j109, ea]
        exact nx (fun h => c1 h.1)
theorem r_fill_l {it lk : Nat → Nat} {n b l : Nat} (hn : n ≤ 10) (hb : b < 16) (hl : l < 4) (hlb : b.testBit l = true) (hb2 : ∀ j, (b ^^^ 2 ^ l).testBit j = (b.testBit j && decide (j ≠ l))) (hbl : b ^^^ 2 ^ l < b) (hv : 1 ≤ lk l ∧ lk l < 1000) (hss : ∀ t, ss it n t < 1000) :
    ∀ (f k s : Nat) (any : Bool) {M : Ob}, s + k = 2 ^ n → k < f → (∀ t, t < 2 ^ n → oA M 27 t = nI (ss it n t)) → TT (oA M 26) it n lk (b ^^^ 2 ^ l) → (∀ t, t < s → yes (oA M 26 (1024 * b + t)) (PA it n lk b t)) → (any = true ↔ ∃ t, t < s ∧ PA it n lk b t) →
      okS (pX11_fills_l44 (nI b) (nI n) (nI l) (nI (lk l)) f (nI (b01 any)) (nI s) M) (fun r => (∃ B : Bool, r.1 = nI (b01 B) ∧ (B = true ↔ ∃ t, t < 2 ^ n ∧ PA it n lk b t)) ∧ ∃ Z, r.2 = sA M 26 Z ∧ (∀ t, t < 2 ^ n → yes (Z (1024 * b + t)) (PA it n lk b t)) ∧ ∀ i, (i < 1024 * b ∨ 1024 * b + 1024 ≤ i) → Z i = oA M 26 i)
  | 0, _, _, _, _, _, h, _, _, _, _ => by omega
  | f + 1, k, s, any, M, h1, h2, h27, hT, hdone, hany => by
    have p10 : 2 ^ n ≤ 1024 := Nat.pow_le_pow_right (n := 2) (by decide) hn
    rw [pX11_fills_l44]
    cases k with
    | zero =>
      simp (disch := omega) only [l_0, l_1, l_2, l_3, l_4, l_5, l_6, l_7, l_8, l_9, l_10, l_11, l_12, l_13, l_14, l_15, l_16, l_17, l_18, l_19, l_20, l_21, l_22, l_23, l_24, l_25, l_26, l_27, l_28, l_29, l_30, l_31, l_32, l_33, l_34, l_35, l_36, l_40, l_41, l_48, l_56, l_57, l_59, l_60, l_61, l_62, l_63, l_79, l_81, l_88, l_93, l_97, l_99, l_105, l_117, l_121, l_122, l_125, l_127, l_131, l_179, l_185, l_193, l_197, l_200, l_201, l_210, l_255, l_390, l_400, l_616, l_900, l_940, l_999, l_1000, l_1024, e_ltT, e_ltF, e_leT, e_leF, e_eqT, e_eqF, e_cl, e_in, e_gd, e_bd, e_ne, e_en, e_nlt, e_ltn, e_len, e_nle, e_nn, e_z0, e_z1, nI_add, pk_mul, e_sub, Nf_app, e_refl, e_reflN, reduceIte, ite_true_, ite_false_, e_shl]
      refine okS_some ⟨⟨any, rfl, ?_⟩, oA M 26, by rw [sA_self], fun t ht => hdone t (by omega), fun _ _ => rfl⟩
      rw [hany, show s = 2 ^ n by omega]
    | succ k =>
      obtain ⟨x, x1, x2⟩ := r_own (M := M) (it := it) (lk := lk) (l := l) (v := lk l) (s := s) hn (by omega) hb hl hv.2 h27 hss hT (by omega) (nI (b01 any)) fu s (by rw [fu_eq]; omega) (Nat.and_self s) (fun ⟨t, a1, a2, a3⟩ => ⟨t, a1, by rw [← a2]; exact Nat.and_le_right, a2, a3⟩)
      have x3 : yes x (PA it n lk b s) := x2.iff (PA_rec hl hlb hb2 hv.1).symm
      have hz : z01 x = true := by rcases x3 with ⟨e, _⟩ | ⟨e, _⟩ <;> rw [e] <;> decide
      have ih := fun (B : Bool) (hB : B = true ↔ ∃ t, t < s + 1 ∧ PA it n lk b t) => r_fill_l hn hb hl hlb hb2 hbl hv hss f k (s + 1) B (M := sA M 26 (va_up (oA M 26) (1024 * b + s) x)) (by omega) (by omega) h27 (fun t ht => by
        rw [oA_self, uv_ne (by omega)]; exact hT t ht) (fun t ht => by
        rw [oA_self]
        by_cases e : t = s
        · rw [e, uv_eq rfl]; exact x3
        · rw [uv_ne (by omega)]; exact hdone t (by omega)) hB
      have conv : ∀ (B : Bool), okS (pX11_fills_l44 (nI b) (nI n) (nI l) (nI (lk l)) f (nI (b01 B)) (nI (s + 1)) (sA M 26 (va_up (oA M 26) (1024 * b + s) x))) (fun r => (∃ B : Bool, r.1 = nI (b01 B) ∧ (B = true ↔ ∃ t, t < 2 ^ n ∧ PA it n lk b t)) ∧ ∃ Z, r.2 = sA (sA M 26 (va_up (oA M 26) (1024 * b + s) x)) 26 Z ∧ (∀ t, t < 2 ^ n → yes (Z (1024 * b + t)) (PA it n lk b t)) ∧ ∀ i, (i < 1024 * b ∨ 1024 * b + 1024 ≤ i) → Z i = oA (sA M 26 (va_up (oA M 26) (1024 * b + s) x)) 26 i) → okS (pX11_fills_l44 (nI b) (nI n) (nI l) (nI (lk l)) f (nI (b01 B)) (nI (s + 1)) (sA M 26 (va_up (oA M 26) (1024 * b + s) x))) (fun r => (∃ B : Bool, r.1 = nI (b01 B) ∧ (B = true ↔ ∃ t, t < 2 ^ n ∧ PA it n lk b t)) ∧ ∃ Z, r.2 = sA M 26 Z ∧ (∀ t, t < 2 ^ n → yes (Z (1024 * b + t)) (PA it n lk b t)) ∧ ∀ i, (i < 1024 * b ∨ 1024 * b + 1024 ≤ i) → Z i = oA M 26 i) := by
        rintro B ⟨r, a1, a2, Z, a3, a4, a5⟩
        exact ⟨r, a1, a2, Z, by rw [a3, sA_sA], a4, fun i hi => by rw [a5 i hi, oA_self, uv_ne (by omega)]⟩
      cases any with
      | true =>
        have := conv true (ih true ⟨fun _ => by obtain ⟨t, b1, b2⟩ := hany.mp rfl; exact ⟨t, by omega, b2⟩, fun _ => rfl⟩)
        rw [b01_t] at this
        simp (disch := omega) only [l_0, l_1, l_2, l_3, l_4, l_5, l_6, l_7, l_8, l_9, l_10, l_11, l_12, l_13, l_14, l_15, l_16, l_17, l_18, l_19, l_20, l_21, l_22, l_23, l_24, l_25, l_26, l_27, l_28, l_29, l_30, l_31, l_32, l_33, l_34, l_35, l_36, l_40, l_41, l_48, l_56, l_57, l_59, l_60, l_61, l_62, l_63, l_79, l_81, l_88, l_93, l_97, l_99, l_105, l_117, l_121, l_122, l_125, l_127, l_131, l_179, l_185, l_193, l_197, l_200, l_201, l_210, l_255, l_390, l_400, l_616, l_900, l_940, l_999, l_1000, l_1024, e_ltT, e_ltF, e_leT, e_leF, e_eqT, e_eqF, e_cl, e_in, e_gd, e_bd, e_ne, e_en, e_nlt, e_ltn, e_len, e_nle, e_nn, e_z0, e_z1, nI_add, pk_mul, e_sub, Nf_app, e_refl, e_reflN, reduceIte, ite_true_, ite_false_, e_shl, b01_t, x1, hz, pX11_fills_j148]
        rw [b01_t] at x1
        simp (disch := omega) only [l_0, l_1, l_2, l_3, l_4, l_5, l_6, l_7, l_8, l_9, l_10, l_11, l_12, l_13, l_14, l_15, l_16, l_17, l_18, l_19, l_20, l_21, l_22, l_23, l_24, l_25, l_26, l_27, l_28, l_29, l_30, l_31, l_32, l_33, l_34, l_35, l_36, l_40, l_41, l_48, l_56, l_57, l_59, l_60, l_61, l_62, l_63, l_79, l_81, l_88, l_93, l_97, l_99, l_105, l_117, l_121, l_122, l_125, l_127, l_131, l_179, l_185, l_193, l_197, l_200, l_201, l_210, l_255, l_390, l_400, l_616, l_900, l_940, l_999, l_1000, l_1024, e_ltT, e_ltF, e_leT, e_leF, e_eqT, e_eqF, e_cl, e_in, e_gd, e_bd, e_ne, e_en, e_nlt, e_ltn, e_len, e_nle, e_nn, e_z0, e_z1, nI_add, pk_mul, e_sub, Nf_app, e_refl, e_reflN, reduceIte, ite_true_, ite_false_, x1, hz, pX11_fills_j148]
        exact this
      | false =>
        rw [b01_f] at x1
        rcases x3 with ⟨e, hp⟩ | ⟨e, hp⟩
        · have := conv true (ih true ⟨fun _ => ⟨s, by omega, hp⟩, fun _ => rfl⟩)
          rw [b01_t] at this
          rw [e] at x1 this
          simp (disch := omega) only [l_0, l_1, l_2, l_3, l_4, l_5, l_6, l_7, l_8, l_9, l_10, l_11, l_12, l_13, l_14, l_15, l_16, l_17, l_18, l_19, l_20, l_21, l_22, l_23, l_24, l_25, l_26, l_27, l_28, l_29, l_30, l_31, l_32, l_33, l_34, l_35, l_36, l_40, l_41, l_48, l_56, l_57, l_59, l_60, l_61, l_62, l_63, l_79, l_81, l_88, l_93, l_97, l_99, l_105, l_117, l_121, l_122, l_125, l_127, l_131, l_179, l_185, l_193, l_197, l_200, l_201, l_210, l_255, l_390, l_400, l_616, l_900, l_940, l_999, l_1000, l_1024, e_ltT, e_ltF, e_leT, e_leF, e_eqT, e_eqF, e_cl, e_in, e_gd, e_bd, e_ne, e_en, e_nlt, e_ltn, e_len, e_nle, e_nn, e_z0, e_z1, nI_add, pk_mul, e_sub, Nf_app, e_refl, e_reflN, reduceIte, ite_true_, ite_false_, e_shl, b01_f, x1, pX11_fills_j148]
          exact this
        · have := conv false (ih false ⟨fun h => (nomatch h), fun ⟨t, b1, b2⟩ => by
            by_cases e2 : t = s
            · rw [e2] at b2; exact absurd b2 hp
            · exact hany.mpr ⟨t, by omega, b2⟩⟩)
          rw [b01_f] at this
          rw [e] at x1 this
          simp (disch := omega) only [l_0, l_1, l_2, l_3, l_4, l_5, l_6, l_7, l_8, l_9, l_10, l_11, l_12, l_13, l_14, l_15, l_16, l_17, l_18, l_19, l_20, l_21, l_22, l_23, l_24, l_25, l_26, l_27, l_28, l_29, l_30, l_31, l_32, l_33, l_34, l_35, l_36, l_40, l_41, l_48, l_56, l_57, l_59, l_60, l_61, l_62, l_63, l_79, l_81, l_88, l_93, l_97, l_99, l_105, l_117, l_121, l_122, l_125, l_127, l_131, l_179, l_185, l_193, l_197, l_200, l_201, l_210, l_255, l_390, l_400, l_616, l_900, l_940, l_999, l_1000, l_1024, e_ltT, e_ltF, e_leT, e_leF, e_eqT, e_eqF, e_cl, e_in, e_gd, e_bd, e_ne, e_en, e_nlt, e_ltn, e_len, e_nle, e_nn, e_z0, e_z1, nI_add, pk_mul, e_sub, Nf_app, e_refl, e_reflN, reduceIte, ite_true_, ite_false_, e_shl, b01_f, x1]
          exact this
def lks (g : Nat → Nat) (j : Nat) : Nat := g (117 + j) - g (193 + j)
theorem r_fills {it : Nat → Nat} {n b : Nat} (hQ : WQ g) (hM : oA M 6 = Nf g) (hn : n ≤ 10) (hb : b < 2 ^ g 3) (h0 : 0 < b) (hns : ∀ j, b.testBit j = true → sl g j = false) (hss : ∀ t, ss it n t < 1000) (h27 : ∀ t, t < 2 ^ n → oA M 27 t = nI (ss it n t)) (hT : TT (oA M 26) it n (lks g) (b ^^^ 2 ^ lastb b)) :
    okS (pX11_fills M (nI b) (nI n)) (fun r => (∃ B : Bool, r.1 = nI (b01 B) ∧ (B = true ↔ EA it n (lks g) b)) ∧ ∃ Z, r.2 = sA M 26 Z ∧ TT Z it n (lks g) b ∧ ∀ i, (i < 1024 * b ∨ 1024 * b + 1024 ≤ i) → Z i = oA M 26 i) := by
  have g3 := w_g3 hQ
  have hb16 : b < 16 := Nat.lt_of_lt_of_le hb (Nat.pow_le_pow_right (by decide) g3)
  obtain ⟨a1, a2, a3, _⟩ := lastA b hb16 h0
  have hl3 : lastb b < g 3 := by
    rcases Nat.lt_or_ge (lastb b) (g 3) with h | h
    · exact h
    · have := xs_le a2
      have := Nat.pow_le_pow_right (n := 2) (by decide) h
      omega
  have hsl := hns _ a2
  unfold sl at hsl
  rw [decide_eq_false_iff_not] at hsl
  have hw := w_need hQ hl3
  have hlast : pX11_fills_l2 M (nI b) (nI n) fu (nI 3) = some (nI (lastb b)) := by rw [r_last_z]; exact r_lastA b hb16 h0
  have hlk : g (117 + lastb b) - g (193 + lastb b) = lks g (lastb b) := rfl
  have p := Nat.two_pow_pos n
  obtain ⟨r, x1, ⟨B, x2, x3⟩, Z, x4, x5, x6⟩ := r_fill_l (lk := lks g) (it := it) hn hb16 a1 a2 (last_tb hb16 h0) a3 (by rw [← hlk]; omega) hss fu (2 ^ n) 0 false (M := M) (by omega) (by have := Nat.pow_le_pow_right (n := 2) (by decide) hn; rw [fu_eq]; omega) h27 hT (fun t ht => by omega) ⟨fun h => (nomatch h), fun ⟨t, h, _⟩ => by omega⟩
  rw [b01_f] at x1
  have hz : z01 r.1 = true := by rw [x2]; exact b01_z B
  unfold pX11_fills
  simp (disch := omega) only [l_0, l_1, l_2, l_3, l_4, l_5, l_6, l_7, l_8, l_9, l_10, l_11, l_12, l_13, l_14, l_15, l_16, l_17, l_18, l_19, l_20, l_21, l_22, l_23, l_24, l_25, l_26, l_27, l_28, l_29, l_30, l_31, l_32, l_33, l_34, l_35, l_36, l_40, l_41, l_48, l_56, l_57, l_59, l_60, l_61, l_62, l_63, l_79, l_81, l_88, l_93, l_97, l_99, l_105, l_117, l_121, l_122, l_125, l_127, l_131, l_179, l_185, l_193, l_197, l_200, l_201, l_210, l_255, l_390, l_400, l_616, l_900, l_940, l_999, l_1000, l_1024, e_ltT, e_ltF, e_leT, e_leF, e_eqT, e_eqF, e_cl, e_in, e_gd, e_bd, e_ne, e_en, e_nlt, e_ltn, e_len, e_nle, e_nn, e_z0, e_z1, nI_add, pk_mul, e_sub, Nf_app, e_refl, e_reflN, reduceIte, ite_true_, ite_false_, hlast, hM, hlk, x1, hz]
  exact okS_some ⟨⟨B, x2, x3.trans (EA_PA hb16).symm⟩, Z, x4, x5, x6⟩
/-! the class's table of orders -/
theorem m_A : ∀ s, s < 1024 → ∀ k, k < 10 → s.testBit k = true → nI s &&& (nI (2 ^ k) ^^^ (-nI 1)) = nI (s - 2 ^ k) := by decide +kernel
theorem e_and127 {x : Nat} (h : x < 2147483648) : nI x &&& nI 127 = nI (x % 128) := pk_andN (by omega) 7 (by decide)
theorem e_shl7 {x : Nat} (h : x < 1000) : nI x <<< (nI 7 &&& nI 31) = nI (x * 128) := pk_shlN _ 7 (e_cnt 7 (by decide)) (by omega)
theorem e_shr7 {x : Nat} (h : x < 2147483648) : nI x >>> (nI 7 &&& nI 31) = nI (x / 128) := e_shr h (by decide)
theorem e_or7 {a b : Nat} (h : b < 128) : nI (a * 128) ||| nI b = nI (a * 128 + b) := by
  rw [e_or]
  have := Nat.two_pow_add_eq_or_of_lt (i := 7) (b := b) h a
  rw [show 2 ^ 7 * a = a * 128 by omega] at this
  rw [this]
theorem c_fillOn {mi : Nat → Nat} {w x v : Nat} (hw : w ≤ 4) (hm : ∀ j, j < w → 1 ≤ mi j ∧ mi j ≤ 99) (h4 : ∀ j, j < w → oA W 5 j = nI (mi j)) (hx : vd mi w x) (hv : v ≤ 9) : pX3_fillOn W (nI x) (nI v) (nI w) = some (nI (stp mi w x v)) := by
  obtain ⟨a, b, c⟩ := hx
  have hxs : x < 1000 := by omega
  unfold pX3_fillOn stp
  by_cases c1 : w ≤ x / 128
  · rw [if_pos c1]
    simp (disch := omega) only [l_0, l_1, l_2, l_3, l_4, l_5, l_6, l_7, l_8, l_9, l_10, l_11, l_12, l_13, l_14, l_15, l_16, l_17, l_18, l_19, l_20, l_21, l_22, l_23, l_24, l_25, l_26, l_27, l_28, l_29, l_30, l_31, l_32, l_33, l_34, l_35, l_36, l_40, l_41, l_48, l_56, l_57, l_59, l_60, l_61, l_62, l_63, l_79, l_81, l_88, l_93, l_97, l_99, l_105, l_117, l_121, l_122, l_125, l_127, l_131, l_179, l_185, l_193, l_197, l_200, l_201, l_210, l_255, l_390, l_400, l_616, l_900, l_940, l_999, l_1000, l_1024, e_ltT, e_ltF, e_leT, e_leF, e_eqT, e_eqF, e_cl, e_in, e_gd, e_bd, e_ne, e_en, e_nlt, e_ltn, e_len, e_nle, e_nn, e_z0, e_z1, nI_add, pk_mul, e_sub, Nf_app, e_refl, e_reflN, reduceIte, ite_true_, ite_false_, e_shr7]
  · rw [if_neg c1]
    have m1 := hm (x / 128) (by omega)
    have m4 := h4 (x / 128) (by omega)
    have b1 := b (by omega)
    by_cases c2 : x % 128 + v < mi (x / 128)
    · rw [if_pos c2]
      simp (disch := omega) only [l_0, l_1, l_2, l_3, l_4, l_5, l_6, l_7, l_8, l_9, l_10, l_11, l_12, l_13, l_14, l_15, l_16, l_17, l_18, l_19, l_20, l_21, l_22, l_23, l_24, l_25, l_26, l_27, l_28, l_29, l_30, l_31, l_32, l_33, l_34, l_35, l_36, l_40, l_41, l_48, l_56, l_57, l_59, l_60, l_61, l_62, l_63, l_79, l_81, l_88, l_93, l_97, l_99, l_105, l_117, l_121, l_122, l_125, l_127, l_131, l_179, l_185, l_193, l_197, l_200, l_201, l_210, l_255, l_390, l_400, l_616, l_900, l_940, l_999, l_1000, l_1024, e_ltT, e_ltF, e_leT, e_leF, e_eqT, e_eqF, e_cl, e_in, e_gd, e_bd, e_ne, e_en, e_nlt, e_ltn, e_len, e_nle, e_nn, e_z0, e_z1, nI_add, pk_mul, e_sub, Nf_app, e_refl, e_reflN, reduceIte, ite_true_, ite_false_, e_shr7, e_and127, m4, e_shl7, e_or7]
      rw [show x / 128 * 128 + (x % 128 + v) = x + v by omega]
    · rw [if_neg c2]
      simp (disch := omega) only [l_0, l_1, l_2, l_3, l_4, l_5, l_6, l_7, l_8, l_9, l_10, l_11, l_12, l_13, l_14, l_15, l_16, l_17, l_18, l_19, l_20, l_21, l_22, l_23, l_24, l_25, l_26, l_27, l_28, l_29, l_30, l_31, l_32, l_33, l_34, l_35, l_36, l_40, l_41, l_48, l_56, l_57, l_59, l_60, l_61, l_62, l_63, l_79, l_81, l_88, l_93, l_97, l_99, l_105, l_117, l_121, l_122, l_125, l_127, l_131, l_179, l_185, l_193, l_197, l_200, l_201, l_210, l_255, l_390, l_400, l_616, l_900, l_940, l_999, l_1000, l_1024, e_ltT, e_ltF, e_leT, e_leF, e_eqT, e_eqF, e_cl, e_in, e_gd, e_bd, e_ne, e_en, e_nlt, e_ltn, e_len, e_nle, e_nn, e_z0, e_z1, nI_add, pk_mul, e_sub, Nf_app, e_refl, e_reflN, reduceIte, ite_true_, ite_false_, e_shr7, e_and127, m4, e_shl7]
theorem m_B : ∀ s, s < 1024 → ∀ k, k < 10 → s.testBit k = false → nI s &&& (nI (2 ^ k) ^^^ (-nI 1)) = nI s := by decide +kernel
theorem t_A : ∀ s, s < 1024 → nI 1023 &&& ((nI s <<< (nI 1 &&& nI 31)) ^^^ (-nI 1)) = nI (1023 ^^^ (2 * s % 1024)) := by decide +kernel
theorem c_tf {L s : Nat} (h4 : oI W 4 = nI L) (hs : s < 1024) : pX3_takesFirstOfLikeOnes W (nI s) = some (nI (b01 (cB L s))) := by
  have hz : s &&& L < 1024 := Nat.lt_of_le_of_lt Nat.and_le_left hs
  have hz2 : s &&& L &&& (1023 ^^^ (2 * s % 1024)) < 1024 := Nat.lt_of_le_of_lt Nat.and_le_left hz
  have e0 : (s &&& L) &&& 1023 = s &&& L := Nat.and_two_pow_sub_one_of_lt_two_pow (n := 10) hz
  have h1 : nI s &&& nI L = nI (s &&& L) &&& nI 1023 := by rw [e_and, e_and, e0]
  have e : (nI s &&& oI W 4) &&& ((nI s <<< (nI 1 &&& nI 31)) ^^^ (-nI 1)) = nI (s &&& L &&& (1023 ^^^ (2 * s % 1024))) := by
    rw [h4, h1, Int32.and_assoc, t_A s hs, e_and]
  have e' : (nI s &&& oI W 4) &&& ((nI s <<< ((1 : Int32) &&& 31)) ^^^ (-1 : Int32)) = nI (s &&& L &&& (1023 ^^^ (2 * s % 1024))) := e
  unfold pX3_takesFirstOfLikeOnes
  by_cases c : s &&& L &&& (1023 ^^^ (2 * s % 1024)) = 0
  · have cc : cB L s = true := decide_eq_true c
    rw [cc, if_pos (by rw [e', c]; rfl)]; rfl
  · have cc : cB L s = false := decide_eq_false c
    rw [cc, if_neg (by rw [e']; exact fun h => c ((nI_eq (by omega) (by decide)).mp h))]; rfl
def mq (L : Nat) (it : Nat → Nat) (mi : Nat → Nat) (w : Nat) (d : Nat → Nat) (s : Nat) : Nat → Nat
  | 0 => 0
  | i + 1 => if s.testBit i = true ∧ cB L (s - 2 ^ i) = true then (if mq L it mi w d s i < stp mi w (d (s - 2 ^ i)) (it i) then stp mi w (d (s - 2 ^ i)) (it i) else mq L it mi w d s i) else mq L it mi w d s i
theorem mq_ok (L : Nat) (it mi : Nat → Nat) (w : Nat) (d : Nat → Nat) (s : Nat) : ∀ n, (∀ i, i < n → s.testBit i = true → cB L (s - 2 ^ i) = true → stp mi w (d (s - 2 ^ i)) (it i) ≤ mq L it mi w d s n) ∧ (mq L it mi w d s n = 0 ∨ ∃ i, i < n ∧ s.testBit i = true ∧ cB L (s - 2 ^ i) = true ∧ mq L it mi w d s n = stp mi w (d (s - 2 ^ i)) (it i))
  | 0 => ⟨fun i hi => by omega, Or.inl rfl⟩
  | n + 1 => by
    obtain ⟨a, b⟩ := mq_ok L it mi w d s n
    have b' : mq L it mi w d s n = 0 ∨ ∃ i, i < n + 1 ∧ s.testBit i = true ∧ cB L (s - 2 ^ i) = true ∧ mq L it mi w d s n = stp mi w (d (s - 2 ^ i)) (it i) := b.imp id (fun ⟨i, h1, h2⟩ => ⟨i, by omega, h2⟩)
    rw [mq]
    by_cases c : s.testBit n = true ∧ cB L (s - 2 ^ n) = true
    · rw [if_pos c]
      by_cases c2 : mq L it mi w d s n < stp mi w (d (s - 2 ^ n)) (it n)
      · rw [if_pos c2]
        refine ⟨fun i hi h hc => ?_, Or.inr ⟨n, by omega, c.1, c.2, rfl⟩⟩
        by_cases e : i = n
        · rw [e]; exact Nat.le_refl _
        · have := a i (by omega) h hc; omega
      · rw [if_neg c2]
        refine ⟨fun i hi h hc => ?_, b'⟩
        by_cases e : i = n
        · rw [e]; omega
        · exact a i (by omega) h hc
    · rw [if_neg c]
      refine ⟨fun i hi h hc => ?_, b'⟩
      by_cases e : i = n
      · rw [e] at h hc; exact absurd ⟨h, hc⟩ c
      · exact a i (by omega) h hc
theorem c_most1 {it mi d : Nat → Nat} {n w s L : Nat} (hn : n ≤ 10) (hw : w ≤ 4) (hm : ∀ j, j < w → 1 ≤ mi j ∧ mi j ≤ 99) (h2 : oI W 2 = nI n) (hL : oI W 4 = nI L) (h1 : ∀ i, i < n → oA W 1 i = nI (it i) ∧ it i ≤ 9) (h4 : ∀ j, j < w → oA W 5 j = nI (mi j)) (hs : s < 2 ^ n) (hd : ∀ t, t < s → cB L t = true → oA W 0 t = nI (d t) ∧ vd mi w (d t)) :
    ∀ (f i : Nat), i ≤ n → n - i < f → mq L it mi w d s i < 1000 → pX3_bestFill_l5 W (nI s) (nI w) f (nI (mq L it mi w d s i)) (nI i) = some (nI (mq L it mi w d s n))
  | 0, _, _, h, _ => by omega
  | f + 1, i, hi, hf, hq => by
    have s10 : s < 1024 := Nat.lt_of_lt_of_le hs (Nat.pow_le_pow_right (by decide) hn)
    rw [pX3_bestFill_l5]
    by_cases c : i = n
    · simp (disch := omega) only [l_0, l_1, l_2, l_3, l_4, l_5, l_6, l_7, l_8, l_9, l_10, l_11, l_12, l_13, l_14, l_15, l_16, l_17, l_18, l_19, l_20, l_21, l_22, l_23, l_24, l_25, l_26, l_27, l_28, l_29, l_30, l_31, l_32, l_33, l_34, l_35, l_36, l_40, l_41, l_48, l_56, l_57, l_59, l_60, l_61, l_62, l_63, l_79, l_81, l_88, l_93, l_97, l_99, l_105, l_117, l_121, l_122, l_125, l_127, l_131, l_179, l_185, l_193, l_197, l_200, l_201, l_210, l_255, l_390, l_400, l_616, l_900, l_940, l_999, l_1000, l_1024, e_ltT, e_ltF, e_leT, e_leF, e_eqT, e_eqF, e_cl, e_in, e_gd, e_bd, e_ne, e_en, e_nlt, e_ltn, e_len, e_nle, e_nn, e_z0, e_z1, nI_add, pk_mul, e_sub, Nf_app, e_refl, e_reflN, reduceIte, ite_true_, ite_false_, h2]
      rw [c]
    · cases cb : s.testBit i with
      | false =>
        have m := m_B s s10 i (by omega) cb
        have e : mq L it mi w d s (i + 1) = mq L it mi w d s i := by rw [mq, if_neg (by rw [cb]; exact fun h => nomatch h.1)]
        have ih := c_most1 hn hw hm h2 hL h1 h4 hs hd f (i + 1) (by omega) (by omega) (by rw [e]; exact hq)
        rw [e] at ih
        simp (disch := omega) only [l_0, l_1, l_2, l_3, l_4, l_5, l_6, l_7, l_8, l_9, l_10, l_11, l_12, l_13, l_14, l_15, l_16, l_17, l_18, l_19, l_20, l_21, l_22, l_23, l_24, l_25, l_26, l_27, l_28, l_29, l_30, l_31, l_32, l_33, l_34, l_35, l_36, l_40, l_41, l_48, l_56, l_57, l_59, l_60, l_61, l_62, l_63, l_79, l_81, l_88, l_93, l_97, l_99, l_105, l_117, l_121, l_122, l_125, l_127, l_131, l_179, l_185, l_193, l_197, l_200, l_201, l_210, l_255, l_390, l_400, l_616, l_900, l_940, l_999, l_1000, l_1024, e_ltT, e_ltF, e_leT, e_leF, e_eqT, e_eqF, e_cl, e_in, e_gd, e_bd, e_ne, e_en, e_nlt, e_ltn, e_len, e_nle, e_nn, e_z0, e_z1, nI_add, pk_mul, e_sub, Nf_app, e_refl, e_reflN, reduceIte, ite_true_, ite_false_, h2, e_shl, m, ih]
      | true =>
        have m := m_A s s10 i (by omega) cb
        have le := xs_le cb
        have p := Nat.two_pow_pos i
        have tf := c_tf (W := W) (s := s - 2 ^ i) hL (by omega)
        cases cc : cB L (s - 2 ^ i) with
        | false =>
          rw [cc, b01_f] at tf
          have e : mq L it mi w d s (i + 1) = mq L it mi w d s i := by rw [mq, if_neg (by rw [cc]; exact fun h => nomatch h.2)]
          have ih := c_most1 hn hw hm h2 hL h1 h4 hs hd f (i + 1) (by omega) (by omega) (by rw [e]; exact hq)
          rw [e] at ih
          simp (disch := omega) only [l_0, l_1, l_2, l_3, l_4, l_5, l_6, l_7, l_8, l_9, l_10, l_11, l_12, l_13, l_14, l_15, l_16, l_17, l_18, l_19, l_20, l_21, l_22, l_23, l_24, l_25, l_26, l_27, l_28, l_29, l_30, l_31, l_32, l_33, l_34, l_35, l_36, l_40, l_41, l_48, l_56, l_57, l_59, l_60, l_61, l_62, l_63, l_79, l_81, l_88, l_93, l_97, l_99, l_105, l_117, l_121, l_122, l_125, l_127, l_131, l_179, l_185, l_193, l_197, l_200, l_201, l_210, l_255, l_390, l_400, l_616, l_900, l_940, l_999, l_1000, l_1024, e_ltT, e_ltF, e_leT, e_leF, e_eqT, e_eqF, e_cl, e_in, e_gd, e_bd, e_ne, e_en, e_nlt, e_ltn, e_len, e_nle, e_nn, e_z0, e_z1, nI_add, pk_mul, e_sub, Nf_app, e_refl, e_reflN, reduceIte, ite_true_, ite_false_, h2, e_shl, m, tf, ih]
        | true =>
          rw [cc, b01_t] at tf
          obtain ⟨d1, d2⟩ := hd (s - 2 ^ i) (by omega) cc
          obtain ⟨i1, i2⟩ := h1 i (by omega)
          have fo := c_fillOn hw hm h4 d2 i2
          have v := (stp_vd (v := it i) hm d2).1
          have vl : stp mi w (d (s - 2 ^ i)) (it i) < 1000 := by
            obtain ⟨v1, v2, v3⟩ := v
            omega
          have e : mq L it mi w d s (i + 1) = if mq L it mi w d s i < stp mi w (d (s - 2 ^ i)) (it i) then stp mi w (d (s - 2 ^ i)) (it i) else mq L it mi w d s i := by rw [mq, if_pos ⟨cb, cc⟩]
          by_cases c2 : mq L it mi w d s i < stp mi w (d (s - 2 ^ i)) (it i)
          · rw [if_pos c2] at e
            have ih := c_most1 hn hw hm h2 hL h1 h4 hs hd f (i + 1) (by omega) (by omega) (by rw [e]; exact vl)
            rw [e] at ih
            simp (disch := omega) only [l_0, l_1, l_2, l_3, l_4, l_5, l_6, l_7, l_8, l_9, l_10, l_11, l_12, l_13, l_14, l_15, l_16, l_17, l_18, l_19, l_20, l_21, l_22, l_23, l_24, l_25, l_26, l_27, l_28, l_29, l_30, l_31, l_32, l_33, l_34, l_35, l_36, l_40, l_41, l_48, l_56, l_57, l_59, l_60, l_61, l_62, l_63, l_79, l_81, l_88, l_93, l_97, l_99, l_105, l_117, l_121, l_122, l_125, l_127, l_131, l_179, l_185, l_193, l_197, l_200, l_201, l_210, l_255, l_390, l_400, l_616, l_900, l_940, l_999, l_1000, l_1024, e_ltT, e_ltF, e_leT, e_leF, e_eqT, e_eqF, e_cl, e_in, e_gd, e_bd, e_ne, e_en, e_nlt, e_ltn, e_len, e_nle, e_nn, e_z0, e_z1, nI_add, pk_mul, e_sub, Nf_app, e_refl, e_reflN, reduceIte, ite_true_, ite_false_, h2, e_shl, m, tf, d1, i1, fo, ih]
          · rw [if_neg c2] at e
            have ih := c_most1 hn hw hm h2 hL h1 h4 hs hd f (i + 1) (by omega) (by omega) (by rw [e]; exact hq)
            rw [e] at ih
            simp (disch := omega) only [l_0, l_1, l_2, l_3, l_4, l_5, l_6, l_7, l_8, l_9, l_10, l_11, l_12, l_13, l_14, l_15, l_16, l_17, l_18, l_19, l_20, l_21, l_22, l_23, l_24, l_25, l_26, l_27, l_28, l_29, l_30, l_31, l_32, l_33, l_34, l_35, l_36, l_40, l_41, l_48, l_56, l_57, l_59, l_60, l_61, l_62, l_63, l_79, l_81, l_88, l_93, l_97, l_99, l_105, l_117, l_121, l_122, l_125, l_127, l_131, l_179, l_185, l_193, l_197, l_200, l_201, l_210, l_255, l_390, l_400, l_616, l_900, l_940, l_999, l_1000, l_1024, e_ltT, e_ltF, e_leT, e_leF, e_eqT, e_eqF, e_cl, e_in, e_gd, e_bd, e_ne, e_en, e_nlt, e_ltn, e_len, e_nle, e_nn, e_z0, e_z1, nI_add, pk_mul, e_sub, Nf_app, e_refl, e_reflN, reduceIte, ite_true_, ite_false_, h2, e_shl, m, tf, d1, i1, fo, ih]
def DPk (L : Nat) (it : Nat → Nat) (n : Nat) (mi : Nat → Nat) (w : Nat) (d : Nat → Nat) (k : Nat) : Prop := d 0 = 0 ∧ ∀ s, 0 < s → s < k → cB L s = true → (∀ i, i < n → s.testBit i = true → cB L (s - 2 ^ i) = true → stp mi w (d (s - 2 ^ i)) (it i) ≤ d s) ∧ (d s = 0 ∨ ∃ i, i < n ∧ s.testBit i = true ∧ cB L (s - 2 ^ i) = true ∧ d s = stp mi w (d (s - 2 ^ i)) (it i))
theorem DPk_vd {it mi d : Nat → Nat} {n w k L : Nat} (hm : ∀ j, j < w → 1 ≤ mi j ∧ mi j ≤ 99) (hD : DPk L it n mi w d k) : ∀ (m s : Nat), s ≤ m → s < k → cB L s = true → vd mi w (d s)
  | 0, s, h, _, _ => by
    have : s = 0 := by omega
    rw [this, hD.1]; exact vd_0 hm
  | m + 1, s, h, hs, hc => by
    by_cases c : s = 0
    · rw [c, hD.1]; exact vd_0 hm
    · rcases (hD.2 s (by omega) hs hc).2 with e | ⟨i, _, h2, hc2, h3⟩
      · rw [e]; exact vd_0 hm
      · have := xs_le h2
        have p := Nat.two_pow_pos i
        rw [h3]
        exact (stp_vd hm (DPk_vd hm hD m (s - 2 ^ i) (by omega) (by omega) hc2)).1
theorem c_most_l {it mi : Nat → Nat} {n w L : Nat} (hn : n ≤ 10) (hw : w ≤ 4) (hm : ∀ j, j < w → 1 ≤ mi j ∧ mi j ≤ 99) :
    ∀ (f k s : Nat) {d : Nat → Nat} {W : Ob}, s + k = 2 ^ n → 1 ≤ s → k < f → oI W 2 = nI n → oI W 4 = nI L → (∀ i, i < n → oA W 1 i = nI (it i) ∧ it i ≤ 9) → (∀ j, j < w → oA W 5 j = nI (mi j)) → DPk L it n mi w d s → (∀ t, t < s → cB L t = true → oA W 0 t = nI (d t)) →
      okS (pX3_mostFilled_l18 (nI w) (nI (2 ^ n - 1)) f (nI s) W) (fun W' => ∃ D d, W' = sA W 0 D ∧ DPc L it n mi w d ∧ ∀ t, t < 2 ^ n → cB L t = true → D t = nI (d t))
  | 0, _, _, _, _, _, _, h, _, _, _, _, _, _ => by omega
  | f + 1, k, s, d, W, h1, hs1, h2, hW2, hW4, hW1, hW5, hD, hd => by
    have p10 : 2 ^ n ≤ 1024 := Nat.pow_le_pow_right (n := 2) (by decide) hn
    rw [pX3_mostFilled_l18]
    cases k with
    | zero =>
      simp (disch := omega) only [l_0, l_1, l_2, l_3, l_4, l_5, l_6, l_7, l_8, l_9, l_10, l_11, l_12, l_13, l_14, l_15, l_16, l_17, l_18, l_19, l_20, l_21, l_22, l_23, l_24, l_25, l_26, l_27, l_28, l_29, l_30, l_31, l_32, l_33, l_34, l_35, l_36, l_40, l_41, l_48, l_56, l_57, l_59, l_60, l_61, l_62, l_63, l_79, l_81, l_88, l_93, l_97, l_99, l_105, l_117, l_121, l_122, l_125, l_127, l_131, l_179, l_185, l_193, l_197, l_200, l_201, l_210, l_255, l_390, l_400, l_616, l_900, l_940, l_999, l_1000, l_1024, e_ltT, e_ltF, e_leT, e_leF, e_eqT, e_eqF, e_cl, e_in, e_gd, e_bd, e_ne, e_en, e_nlt, e_ltn, e_len, e_nle, e_nn, e_z0, e_z1, nI_add, pk_mul, e_sub, Nf_app, e_refl, e_reflN, reduceIte, ite_true_, ite_false_, hn]
      refine okS_some ⟨oA W 0, d, by rw [sA_self], ⟨hD.1, fun t h3 h4 => hD.2 t h3 (by omega)⟩, fun t ht => hd t (by omega)⟩
    | succ k =>
      have tf := c_tf (W := W) (s := s) hW4 (by omega)
      cases cc : cB L s with
      | false =>
        rw [cc, b01_f] at tf
        have ih := c_most_l hn hw hm f k (s + 1) (d := d) (W := W) (by omega) (by omega) (by omega) hW2 hW4 hW1 hW5 ⟨hD.1, fun t h3 h4 hc => by
          by_cases e : t = s
          · rw [e, cc] at hc; cases hc
          · exact hD.2 t h3 (by omega) hc⟩ (fun t ht hc => by
          by_cases e : t = s
          · rw [e, cc] at hc; cases hc
          · exact hd t (by omega) hc)
        simp (disch := omega) only [l_0, l_1, l_2, l_3, l_4, l_5, l_6, l_7, l_8, l_9, l_10, l_11, l_12, l_13, l_14, l_15, l_16, l_17, l_18, l_19, l_20, l_21, l_22, l_23, l_24, l_25, l_26, l_27, l_28, l_29, l_30, l_31, l_32, l_33, l_34, l_35, l_36, l_40, l_41, l_48, l_56, l_57, l_59, l_60, l_61, l_62, l_63, l_79, l_81, l_88, l_93, l_97, l_99, l_105, l_117, l_121, l_122, l_125, l_127, l_131, l_179, l_185, l_193, l_197, l_200, l_201, l_210, l_255, l_390, l_400, l_616, l_900, l_940, l_999, l_1000, l_1024, e_ltT, e_ltF, e_leT, e_leF, e_eqT, e_eqF, e_cl, e_in, e_gd, e_bd, e_ne, e_en, e_nlt, e_ltn, e_len, e_nle, e_nn, e_z0, e_z1, nI_add, pk_mul, e_sub, Nf_app, e_refl, e_reflN, reduceIte, ite_true_, ite_false_, tf]
        exact ih
      | true =>
        rw [cc, b01_t] at tf
        have m1 := c_most1 (it := it) (mi := mi) (d := d) (s := s) hn hw hm hW2 hW4 hW1 hW5 (by omega) (fun t ht hc => ⟨hd t ht hc, DPk_vd hm hD t t (Nat.le_refl _) ht hc⟩) fu 0 (by omega) (by rw [fu_eq]; omega) (by rw [mq]; omega)
        rw [mq] at m1
        have bf : pX3_bestFill W (nI s) (nI w) = some (nI (mq L it mi w d s n)) := by
          unfold pX3_bestFill
          simp only [l_0, m1, e_bd]
        have same : ∀ t, t < s → va_up d s (mq L it mi w d s n) t = d t := fun t ht => uv_ne (by omega)
        have ih := c_most_l hn hw hm f k (s + 1) (d := va_up d s (mq L it mi w d s n)) (W := sA W 0 (va_up (oA W 0) s (nI (mq L it mi w d s n)))) (by omega) (by omega) (by omega) hW2 hW4 hW1 hW5 ⟨by rw [same 0 (by omega)]; exact hD.1, fun t h3 h4 hc => by
            have sub : ∀ i, t.testBit i = true → va_up d s (mq L it mi w d s n) (t - 2 ^ i) = d (t - 2 ^ i) := fun i hi => same _ (by have := xs_le hi; have := Nat.two_pow_pos i; omega)
            by_cases e : t = s
            · subst e
              rw [uv_eq rfl]
              obtain ⟨q1, q2⟩ := mq_ok L it mi w d t n
              exact ⟨fun i hi hb hc2 => by rw [sub i hb]; exact q1 i hi hb hc2, q2.imp id (fun ⟨i, hi, hb, hc2, e⟩ => ⟨i, hi, hb, hc2, by rw [sub i hb]; exact e⟩)⟩
            · obtain ⟨q1, q2⟩ := hD.2 t h3 (by omega) hc
              rw [same t (by omega)]
              exact ⟨fun i hi hb hc2 => by rw [sub i hb]; exact q1 i hi hb hc2, q2.imp id (fun ⟨i, hi, hb, hc2, e⟩ => ⟨i, hi, hb, hc2, by rw [sub i hb]; exact e⟩)⟩⟩ (fun t ht hc => by
            rw [oA_self]
            by_cases e : t = s
            · rw [uv_eq e, uv_eq e]
            · rw [uv_ne e, uv_ne e]; exact hd t (by omega) hc)
        obtain ⟨W', w1, D, d', w2, w3, w4⟩ := ih
        simp (disch := omega) only [l_0, l_1, l_2, l_3, l_4, l_5, l_6, l_7, l_8, l_9, l_10, l_11, l_12, l_13, l_14, l_15, l_16, l_17, l_18, l_19, l_20, l_21, l_22, l_23, l_24, l_25, l_26, l_27, l_28, l_29, l_30, l_31, l_32, l_33, l_34, l_35, l_36, l_40, l_41, l_48, l_56, l_57, l_59, l_60, l_61, l_62, l_63, l_79, l_81, l_88, l_93, l_97, l_99, l_105, l_117, l_121, l_122, l_125, l_127, l_131, l_179, l_185, l_193, l_197, l_200, l_201, l_210, l_255, l_390, l_400, l_616, l_900, l_940, l_999, l_1000, l_1024, e_ltT, e_ltF, e_leT, e_leF, e_eqT, e_eqF, e_cl, e_in, e_gd, e_bd, e_ne, e_en, e_nlt, e_ltn, e_len, e_nle, e_nn, e_z0, e_z1, nI_add, pk_mul, e_sub, Nf_app, e_refl, e_reflN, reduceIte, ite_true_, ite_false_, tf, bf, w1]
        exact okS_some ⟨D, d', by rw [w2, sA_sA], w3, w4⟩
theorem c_most {it mi : Nat → Nat} {n w L : Nat} (hn : n ≤ 10) (hw : w ≤ 4) (hm : ∀ j, j < w → 1 ≤ mi j ∧ mi j ≤ 99) (h2 : oI W 2 = nI n) (hL4 : oI W 4 = nI L) (hL : ∀ i, i < n → L.testBit i = true → 1 ≤ i ∧ it (i - 1) = it i) (h1 : ∀ i, i < n → oA W 1 i = nI (it i) ∧ it i ≤ 9) (h4 : ∀ j, j < w → oA W 5 j = nI (mi j)) :
    okS (pX3_mostFilled W (nI w)) (fun r => ∃ x D, r.1 = nI x ∧ x < 1000 ∧ (w ≤ x ↔ EC it n mi w) ∧ r.2 = sA W 0 D) := by
  have p10 : 2 ^ n ≤ 1024 := Nat.pow_le_pow_right (n := 2) (by decide) hn
  have p := Nat.two_pow_pos n
  have ca := cB_all (L := L) hn (fun i hi h => (hL i hi h).1)
  obtain ⟨W', w1, D, d, w2, w3, w4⟩ := c_most_l (it := it) (mi := mi) (L := L) hn hw hm fu (2 ^ n - 1) 1 (d := fun _ => 0) (W := sA W 0 (va_up (oA W 0) 0 (nI 0))) (by omega) (by omega) (by rw [fu_eq]; omega) h2 hL4 h1 h4 ⟨rfl, fun t a b => by omega⟩ (fun t ht _ => by rw [oA_self, uv_eq (by omega)])
  have v := DP_vd hm w3 _ (2 ^ n - 1) (Nat.le_refl _) (by omega) ca
  obtain ⟨v1, v2, v3⟩ := v
  have hdl : d (2 ^ n - 1) < 1000 := by omega
  have hD := w4 (2 ^ n - 1) (by omega) ca
  unfold pX3_mostFilled
  simp (disch := omega) only [l_0, l_1, l_2, l_3, l_4, l_5, l_6, l_7, l_8, l_9, l_10, l_11, l_12, l_13, l_14, l_15, l_16, l_17, l_18, l_19, l_20, l_21, l_22, l_23, l_24, l_25, l_26, l_27, l_28, l_29, l_30, l_31, l_32, l_33, l_34, l_35, l_36, l_40, l_41, l_48, l_56, l_57, l_59, l_60, l_61, l_62, l_63, l_79, l_81, l_88, l_93, l_97, l_99, l_105, l_117, l_121, l_122, l_125, l_127, l_131, l_179, l_185, l_193, l_197, l_200, l_201, l_210, l_255, l_390, l_400, l_616, l_900, l_940, l_999, l_1000, l_1024, e_ltT, e_ltF, e_leT, e_leF, e_eqT, e_eqF, e_cl, e_in, e_gd, e_bd, e_ne, e_en, e_nlt, e_ltn, e_len, e_nle, e_nn, e_z0, e_z1, nI_add, pk_mul, e_sub, Nf_app, e_refl, e_reflN, reduceIte, ite_true_, ite_false_, oI_sI, oI_sL, oI_sW, oI_sA, oI_sJ, oI_sX, oL_sI, oL_sL, oL_sW, oL_sA, oL_sJ, oL_sX, oW_sI, oW_sL, oW_sW, oW_sA, oW_sJ, oW_sX, oA_sI, oA_sL, oA_sW, oA_sA, oA_sJ, oA_sX, oJ_sI, oJ_sL, oJ_sW, oJ_sA, oJ_sJ, oJ_sX, oX_sI, oX_sL, oX_sW, oX_sA, oX_sJ, oX_sX, Nat.reduceEqDiff, n10, n01, h2, e_shl, w1]
  refine okS_some ⟨d (2 ^ n - 1) / 128, D, ?_, by omega, (DP_iff hn hm hL w3).symm, by rw [w2, sA_sA]⟩
  rw [w2, oA_self, hD, e_shr7 (by omega)]
end
