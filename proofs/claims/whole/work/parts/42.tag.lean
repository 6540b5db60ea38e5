/-! words as numbers (the first rows are the kit's, pasted) -/
theorem wb_tb (n : Nat) : (lN n).toBitVec = BitVec.ofNat 64 n := rfl
theorem wb_inj {a b : Int64} (h : a.toBitVec = b.toBitVec) : a = b := Int64.toBitVec_inj.mp h
theorem wb_tn {n : Nat} (h : n < 2 ^ 64) : (lN n).toBitVec.toNat = n := by rw [wb_tb, BitVec.toNat_ofNat, Nat.mod_eq_of_lt h]
theorem wb_c : ∀ k, k < 64 → ((nI k).toInt64 &&& 63) = lN k := by decide +kernel
theorem wb_cu : ∀ k, k < 64 → ((nI k).toInt64.toUInt64 &&& Int64.toUInt64 63) = UInt64.ofNat k := by decide +kernel
theorem wb_sm : ∀ k, k < 64 → (BitVec.ofNat 64 k).smod 64 = BitVec.ofNat 64 k := by decide +kernel
theorem wb_lt2 {a b : Nat} (h : a < b) : 2 ^ a < 2 ^ b := Nat.pow_lt_pow_right (by decide) h
theorem wb_shr {n k : Nat} (hn : n < 2 ^ 64) (hk : k < 64) : ((lN n).toUInt64 >>> ((nI k).toInt64.toUInt64 &&& Int64.toUInt64 63)).toInt64 = lN (n / 2 ^ k) := by
  rw [wb_cu k hk]
  apply wb_inj
  apply BitVec.eq_of_toNat_eq
  show ((lN n).toUInt64 >>> UInt64.ofNat k).toNat = (BitVec.ofNat 64 _).toNat
  have h1 : (UInt64.ofNat k).toNat = k := by
    show (BitVec.ofNat 64 k).toNat = k
    rw [BitVec.toNat_ofNat, Nat.mod_eq_of_lt (by omega)]
  have h2 : (lN n).toUInt64.toNat = n := wb_tn hn
  rw [UInt64.toNat_shiftRight, h1, h2, Nat.mod_eq_of_lt hk, Nat.shiftRight_eq_div_pow, BitVec.toNat_ofNat, Nat.mod_eq_of_lt (Nat.lt_of_le_of_lt (Nat.div_le_self _ _) hn)]
theorem wb_shl (n : Nat) {k : Nat} (hk : k < 64) : lN n <<< ((nI k).toInt64 &&& 63) = lN (n * 2 ^ k) := by
  rw [wb_c k hk]
  apply wb_inj
  rw [Int64.toBitVec_shiftLeft, wb_tb, wb_tb, wb_tb, wb_sm k hk]
  apply BitVec.eq_of_toNat_eq
  rw [BitVec.shiftLeft_eq', BitVec.toNat_shiftLeft, BitVec.toNat_ofNat, BitVec.toNat_ofNat, BitVec.toNat_ofNat, Nat.mod_eq_of_lt (show k < 2 ^ 64 by omega), Nat.shiftLeft_eq, Nat.mul_mod, Nat.mod_mod, ← Nat.mul_mod]
theorem wb_and {a b : Nat} (ha : a < 2 ^ 64) (hb : b < 2 ^ 64) : lN a &&& lN b = lN (a &&& b) := by
  apply wb_inj
  rw [Int64.toBitVec_and, wb_tb, wb_tb, wb_tb]
  apply BitVec.eq_of_toNat_eq
  rw [BitVec.toNat_and, BitVec.toNat_ofNat, BitVec.toNat_ofNat, BitVec.toNat_ofNat, Nat.mod_eq_of_lt ha, Nat.mod_eq_of_lt hb, Nat.mod_eq_of_lt (Nat.and_lt_two_pow _ hb)]
theorem wb_or {a b : Nat} (ha : a < 2 ^ 64) (hb : b < 2 ^ 64) : lN a ||| lN b = lN (a ||| b) := by
  apply wb_inj
  rw [Int64.toBitVec_or, wb_tb, wb_tb, wb_tb]
  apply BitVec.eq_of_toNat_eq
  rw [BitVec.toNat_or, BitVec.toNat_ofNat, BitVec.toNat_ofNat, BitVec.toNat_ofNat, Nat.mod_eq_of_lt ha, Nat.mod_eq_of_lt hb, Nat.mod_eq_of_lt (Nat.or_lt_two_pow ha hb)]
theorem wb_mask {n k : Nat} (hn : n < 2 ^ 64) (hk : k < 64) : lN n &&& lN (2 ^ k - 1) = lN (n % 2 ^ k) := by
  rw [wb_and hn (by have := wb_lt2 hk; omega), Nat.and_two_pow_sub_one_eq_mod]
theorem pf_lI {a : Nat} (h : a < 2 ^ 63) : (lN a).toInt = (a : Int) := lg_ofNat_toInt h
theorem pf_shr {a d : Nat} {D : Int64} (hD : (D.toBitVec.smod 64).toNat = d) (h : a < 2 ^ 62) : lN a >>> D = lN (a / 2 ^ d) := by
  have hd : a / 2 ^ d ≤ a := Nat.div_le_self _ _
  apply Int64.toInt_inj.mp
  have e : (lN a >>> D).toInt = (lN a).toInt >>> d := by
    rw [← hD]
    exact BitVec.toInt_sshiftRight ..
  rw [e, Int.shiftRight_eq_div_pow, pf_lI (by omega), pf_lI (by omega)]
  rfl
theorem fa_byte_small {n : Nat} (h : n < 128) : (nI n).toInt8.toInt32 = nI n := by
  have : ∀ j : Fin 128, (nI j.val).toInt8.toInt32 = nI j.val := by decide +kernel
  exact this ⟨n, h⟩
theorem w_sm : ∀ k, k < 64 → (((nI k).toInt64 &&& 63).toBitVec.smod 64).toNat = k := by decide +kernel
def by_ (n j : Nat) : Nat := n / 2 ^ (8 * j) % 256
def wok (n : Nat) : Prop := n < 2 ^ 56 ∧ ∀ j, j < 7 → by_ n j < 128
theorem wok_7 {n : Nat} (h : wok n) : by_ n 7 = 0 := by
  unfold by_
  rw [Nat.div_eq_of_lt h.1]
theorem r_byte {n : Nat} (h : wok n) {j : Nat} (hj : j < 8) : (lN n >>> ((nI (8 * j)).toInt64 &&& 63)) &&& (255 : Int64) = lN (by_ n j) := by
  have h1 := h.1
  rw [pf_shr (w_sm (8 * j) (by omega)) (by omega)]
  have h2 : n / 2 ^ (8 * j) ≤ n := Nat.div_le_self _ _
  exact wb_mask (k := 8) (by omega) (by decide)
theorem c_byte {n : Nat} (h : wok n) {j : Nat} (hj : j < 8) : (ushr64 (lN n) (nI (8 * j))) &&& (255 : Int64) = lN (by_ n j) := by
  have h1 := h.1
  unfold ushr64
  rw [wb_shr (by omega) (by omega)]
  have h2 : n / 2 ^ (8 * j) ≤ n := Nat.div_le_self _ _
  exact wb_mask (k := 8) (by omega) (by decide)
theorem by_lt {n : Nat} (h : wok n) {j : Nat} (hj : j < 8) : by_ n j < 128 := by
  by_cases c : j = 7
  · subst c; rw [wok_7 h]; omega
  · exact h.2 j (by omega)
theorem lz_eq {a : Nat} (ha : a < 2 ^ 63) : (lg_cmp (lN a) (0 : Int64) = nI 0) = (a = 0) := by
  have e : (0 : Int64) = lN 0 := rfl
  exact propext ((lg_cmp_eq (lN a) 0).trans (by rw [e]; exact pk_lEQ ha (by decide)))
theorem lw_eq {a b : Nat} (ha : a < 2 ^ 63) (hb : b < 2 ^ 63) : (lg_cmp (lN a) (lN b) = nI 0) = (a = b) := propext ((lg_cmp_eq (lN a) (lN b)).trans (pk_lEQ ha hb))
/-- a text under way: its bytes, how many -/
def tp (s : (Nat → Nat) × Nat) (c : Nat) : (Nat → Nat) × Nat := (va_up s.1 s.2 c, s.2 + 1)
def pn (n : Nat) : Nat → (Nat → Nat) × Nat → (Nat → Nat) × Nat
  | 0, s => s
  | j + 1, s => pn n j (if by_ n j = 0 then s else tp s (by_ n j))
theorem pn_le (n : Nat) : ∀ (j : Nat) (s : (Nat → Nat) × Nat), (pn n j s).2 ≤ s.2 + j
  | 0, s => Nat.le_refl _
  | j + 1, s => by
    rw [pn]
    have := pn_le n j (if by_ n j = 0 then s else tp s (by_ n j))
    by_cases c : by_ n j = 0
    · rw [if_pos c] at this ⊢; omega
    · rw [if_neg c] at this ⊢
      have e : (tp s (by_ n j)).2 = s.2 + 1 := rfl
      omega
def kt (nn : Nat → Nat) (s : (Nat → Nat) × Nat) (t r : Nat) : (Nat → Nat) × Nat :=
  if 1 < r then tp (pn (nn t) 7 (tp s 32)) (48 + r) else pn (nn t) 7 (tp s 32)
theorem kt_le (nn : Nat → Nat) (s : (Nat → Nat) × Nat) (t r : Nat) : (kt nn s t r).2 ≤ s.2 + 9 := by
  have h := pn_le (nn t) 7 (tp s 32)
  have e : (tp s 32).2 = s.2 + 1 := rfl
  unfold kt
  split
  · have e2 : (tp (pn (nn t) 7 (tp s 32)) (48 + r)).2 = (pn (nn t) 7 (tp s 32)).2 + 1 := rfl
    omega
  · omega
def ru (f : Nat → Nat) (t : Nat) : Nat → Nat → Nat
  | 0, _ => 0
  | i + 1, k => if f k = t then ru f t i (k + 1) + 1 else 0
theorem ru_le (f : Nat → Nat) (t : Nat) : ∀ i k, ru f t i k ≤ i
  | 0, _ => Nat.le_refl _
  | i + 1, k => by have := ru_le f t i (k + 1); rw [ru]; split <;> omega
def wr (g nn : Nat → Nat) (q : Nat) : Nat → Nat → (Nat → Nat) × Nat → (Nat → Nat) × Nat
  | 0, _, s => s
  | j + 1, k, s => if k < g (125 + q) then wr g nn q j (k + ru (hr g q) (hr g q k) (g (125 + q) - k) k) (kt nn s (hr g q k) (ru (hr g q) (hr g q k) (g (125 + q) - k) k)) else s
/-- the class's and the reference's texts -/
def TC (V : Ob) (s : (Nat → Nat) × Nat) : Prop := oI V 1 = nI s.2 ∧ ∀ i, i < s.2 → oA V 0 i = nI (s.1 i)
def TM (M M' : Ob) (s : (Nat → Nat) × Nat) : Prop := ∃ X, M' = sI (sA M 33 X) 34 (nI s.2) ∧ ∀ i, i < s.2 → X i = nI (s.1 i)
section
variable {N : Nat} {g nn : Nat → Nat} {M M1 V V2 W : Ob}
theorem c_tput {s : (Nat → Nat) × Nat} {c : Nat} (hT : TC W s) (hz : s.2 < 79) : okS (pX7_put W (nI c)) (fun W' => TC W' (tp s c)) := by
  unfold pX7_put
  simp (disch := omega) only [l_0, l_1, l_2, l_3, l_4, l_5, l_6, l_7, l_8, l_9, l_10, l_11, l_12, l_13, l_14, l_15, l_16, l_17, l_18, l_19, l_20, l_21, l_22, l_23, l_24, l_25, l_26, l_27, l_28, l_29, l_30, l_31, l_32, l_33, l_34, l_35, l_36, l_40, l_41, l_48, l_56, l_57, l_59, l_60, l_61, l_62, l_63, l_79, l_81, l_88, l_93, l_97, l_99, l_105, l_117, l_121, l_122, l_125, l_127, l_131, l_179, l_185, l_193, l_197, l_200, l_201, l_210, l_255, l_390, l_400, l_616, l_900, l_940, l_999, l_1000, l_1024, e_ltT, e_ltF, e_leT, e_leF, e_eqT, e_eqF, e_cl, e_in, e_gd, e_bd, e_ne, e_en, e_nlt, e_ltn, e_len, e_nle, e_nn, e_z0, e_z1, nI_add, pk_mul, e_sub, Nf_app, e_refl, e_reflN, reduceIte, ite_true_, ite_false_, oI_sI, oI_sL, oI_sW, oI_sA, oI_sJ, oI_sX, oL_sI, oL_sL, oL_sW, oL_sA, oL_sJ, oL_sX, oW_sI, oW_sL, oW_sW, oW_sA, oW_sJ, oW_sX, oA_sI, oA_sL, oA_sW, oA_sA, oA_sJ, oA_sX, oJ_sI, oJ_sL, oJ_sW, oJ_sA, oJ_sJ, oJ_sX, oX_sI, oX_sL, oX_sW, oX_sA, oX_sJ, oX_sX, Nat.reduceEqDiff, n10, n01, hT.1]
  refine okS_some ⟨?_, fun i hi => ?_⟩
  · simp (disch := omega) only [l_0, l_1, l_2, l_3, l_4, l_5, l_6, l_7, l_8, l_9, l_10, l_11, l_12, l_13, l_14, l_15, l_16, l_17, l_18, l_19, l_20, l_21, l_22, l_23, l_24, l_25, l_26, l_27, l_28, l_29, l_30, l_31, l_32, l_33, l_34, l_35, l_36, l_40, l_41, l_48, l_56, l_57, l_59, l_60, l_61, l_62, l_63, l_79, l_81, l_88, l_93, l_97, l_99, l_105, l_117, l_121, l_122, l_125, l_127, l_131, l_179, l_185, l_193, l_197, l_200, l_201, l_210, l_255, l_390, l_400, l_616, l_900, l_940, l_999, l_1000, l_1024, e_ltT, e_ltF, e_leT, e_leF, e_eqT, e_eqF, e_cl, e_in, e_gd, e_bd, e_ne, e_en, e_nlt, e_ltn, e_len, e_nle, e_nn, e_z0, e_z1, nI_add, pk_mul, e_sub, Nf_app, e_refl, e_reflN, reduceIte, ite_true_, ite_false_, oI_sI, oI_sL, oI_sW, oI_sA, oI_sJ, oI_sX, oL_sI, oL_sL, oL_sW, oL_sA, oL_sJ, oL_sX, oW_sI, oW_sL, oW_sW, oW_sA, oW_sJ, oW_sX, oA_sI, oA_sL, oA_sW, oA_sA, oA_sJ, oA_sX, oJ_sI, oJ_sL, oJ_sW, oJ_sA, oJ_sJ, oJ_sX, oX_sI, oX_sL, oX_sW, oX_sA, oX_sJ, oX_sX, Nat.reduceEqDiff, n10, n01, hT.1]
    rfl
  · have hi : i < s.2 + 1 := hi
    simp (disch := omega) only [l_0, l_1, l_2, l_3, l_4, l_5, l_6, l_7, l_8, l_9, l_10, l_11, l_12, l_13, l_14, l_15, l_16, l_17, l_18, l_19, l_20, l_21, l_22, l_23, l_24, l_25, l_26, l_27, l_28, l_29, l_30, l_31, l_32, l_33, l_34, l_35, l_36, l_40, l_41, l_48, l_56, l_57, l_59, l_60, l_61, l_62, l_63, l_79, l_81, l_88, l_93, l_97, l_99, l_105, l_117, l_121, l_122, l_125, l_127, l_131, l_179, l_185, l_193, l_197, l_200, l_201, l_210, l_255, l_390, l_400, l_616, l_900, l_940, l_999, l_1000, l_1024, e_ltT, e_ltF, e_leT, e_leF, e_eqT, e_eqF, e_cl, e_in, e_gd, e_bd, e_ne, e_en, e_nlt, e_ltn, e_len, e_nle, e_nn, e_z0, e_z1, nI_add, pk_mul, e_sub, Nf_app, e_refl, e_reflN, reduceIte, ite_true_, ite_false_, oI_sI, oI_sL, oI_sW, oI_sA, oI_sJ, oI_sX, oL_sI, oL_sL, oL_sW, oL_sA, oL_sJ, oL_sX, oW_sI, oW_sL, oW_sW, oW_sA, oW_sJ, oW_sX, oA_sI, oA_sL, oA_sW, oA_sA, oA_sJ, oA_sX, oJ_sI, oJ_sL, oJ_sW, oJ_sA, oJ_sJ, oJ_sX, oX_sI, oX_sL, oX_sW, oX_sA, oX_sJ, oX_sX, Nat.reduceEqDiff, n10, n01, hT.1]
    show va_up (oA W 0) s.2 (nI c) i = nI (va_up s.1 s.2 c i)
    by_cases e : i = s.2
    · rw [uv_eq e, uv_eq e]
    · rw [uv_ne e, uv_ne e]; exact hT.2 i (by omega)
theorem r_lays {s : (Nat → Nat) × Nat} {c : Nat} (hT : TM M M1 s) (hz : s.2 < 88) (hc : c < 128) : okS (pX11_lays M1 (nI c)) (fun M2 => TM M M2 (tp s c)) := by
  obtain ⟨X, rfl, hX⟩ := hT
  have b := fa_byte_small hc
  unfold pX11_lays
  simp (disch := omega) only [l_0, l_1, l_2, l_3, l_4, l_5, l_6, l_7, l_8, l_9, l_10, l_11, l_12, l_13, l_14, l_15, l_16, l_17, l_18, l_19, l_20, l_21, l_22, l_23, l_24, l_25, l_26, l_27, l_28, l_29, l_30, l_31, l_32, l_33, l_34, l_35, l_36, l_40, l_41, l_48, l_56, l_57, l_59, l_60, l_61, l_62, l_63, l_79, l_81, l_88, l_93, l_97, l_99, l_105, l_117, l_121, l_122, l_125, l_127, l_131, l_179, l_185, l_193, l_197, l_200, l_201, l_210, l_255, l_390, l_400, l_616, l_900, l_940, l_999, l_1000, l_1024, e_ltT, e_ltF, e_leT, e_leF, e_eqT, e_eqF, e_cl, e_in, e_gd, e_bd, e_ne, e_en, e_nlt, e_ltn, e_len, e_nle, e_nn, e_z0, e_z1, nI_add, pk_mul, e_sub, Nf_app, e_refl, e_reflN, reduceIte, ite_true_, ite_false_, oI_sI, oI_sL, oI_sW, oI_sA, oI_sJ, oI_sX, oL_sI, oL_sL, oL_sW, oL_sA, oL_sJ, oL_sX, oW_sI, oW_sL, oW_sW, oW_sA, oW_sJ, oW_sX, oA_sI, oA_sL, oA_sW, oA_sA, oA_sJ, oA_sX, oJ_sI, oJ_sL, oJ_sW, oJ_sA, oJ_sJ, oJ_sX, oX_sI, oX_sL, oX_sW, oX_sA, oX_sJ, oX_sX, Nat.reduceEqDiff, n10, n01, b]
  refine okS_some ⟨va_up X s.2 (nI c), ?_, fun i hi => ?_⟩
  · rw [sI_sA, sA_sA, sI_sI]; rfl
  · have hi : i < s.2 + 1 := hi
    show va_up X s.2 (nI c) i = nI (va_up s.1 s.2 c i)
    by_cases e : i = s.2
    · rw [uv_eq e, uv_eq e]
    · rw [uv_ne e, uv_ne e]; exact hX i (by omega)
def sh (j : Nat) : Int32 := if j = 0 then -nI 8 else nI (8 * (j - 1))
theorem l_m8 : ∀ j, j < 9 → sh (j + 1) + -nI 8 = sh j := by decide
theorem sh_n : (sh 0 < nI 0) = True := by decide
theorem sh_p : ∀ j, j < 9 → (sh (j + 1) < nI 0) = False := by decide
theorem sh_s (j : Nat) : sh (j + 1) = nI (8 * j) := by rw [sh, if_neg (by omega), Nat.add_sub_cancel]
theorem c_name_l {n : Nat} (hn : wok n) : ∀ (f j : Nat) {s : (Nat → Nat) × Nat} {W : Ob}, j ≤ 7 → j < f → TC W s → s.2 + j ≤ 79 → okS (pX7_putName_l3 (lN n) f (sh j) W) (fun W' => TC W' (pn n j s))
  | 0, _, _, _, _, h, _, _ => by omega
  | f + 1, j, s, W, hj, hf, hT, hz => by
    rw [pX7_putName_l3]
    cases j with
    | zero =>
      simp only [l_0, sh_n, reduceIte]
      exact okS_some hT
    | succ j =>
      have e1 := sh_p j (by omega)
      have e2 := c_byte hn (j := j) (by omega)
      have e3 := l_m8 j (by omega)
      have b1 := by_lt hn (j := j) (by omega)
      rw [pn]
      by_cases c : by_ n j = 0
      · rw [if_pos c]
        have ih := c_name_l hn f j (s := s) (W := W) (by omega) (by omega) hT (by omega)
        simp (disch := omega) only [l_0, l_8, e_ltF, reduceIte, sh_s, e2, lN_i, e_eqT]
        rw [← sh_s, e3]
        exact ih
      · rw [if_neg c]
        obtain ⟨W', w1, w2⟩ := c_tput (c := by_ n j) hT (by omega)
        have ih := c_name_l hn f j (s := tp s (by_ n j)) (W := W') (by omega) (by omega) w2 (by show s.2 + 1 + j ≤ 79; omega)
        simp (disch := omega) only [l_0, l_8, e_ltF, reduceIte, sh_s, e2, lN_i, e_eqF, w1, e_bd]
        rw [← sh_s, e3]
        exact ih
theorem c_name {n : Nat} (hn : wok n) {s : (Nat → Nat) × Nat} (hT : TC W s) (hz : s.2 + 7 ≤ 79) : okS (pX7_putName W (lN n)) (fun W' => TC W' (pn n 7 s)) := by
  obtain ⟨W', w1, w2⟩ := c_name_l hn fu 7 (by omega) (by rw [fu_eq]; omega) hT hz
  have e : sh 7 = nI 48 := rfl
  unfold pX7_putName
  rw [l_48, ← e, w1, e_bd]
  exact okS_some w2
theorem r_name_l {n : Nat} (hn : wok n) : ∀ (f j : Nat) {s : (Nat → Nat) × Nat} {M1 : Ob}, j ≤ 8 → j < f → TM M M1 s → s.2 + j ≤ 88 → okS (pX11_spells_l3 (lN n) f (sh j) M1) (fun M2 => TM M M2 (pn n j s))
  | 0, _, _, _, _, h, _, _ => by omega
  | f + 1, j, s, M1, hj, hf, hT, hz => by
    rw [pX11_spells_l3]
    cases j with
    | zero =>
      simp only [l_0, sh_n, reduceIte]
      exact okS_some hT
    | succ j =>
      have e1 := sh_p j (by omega)
      have e2 := r_byte hn (j := j) (by omega)
      have e3 := l_m8 j (by omega)
      have b1 := by_lt hn (j := j) (by omega)
      have e4 := lz_eq (a := by_ n j) (by omega)
      rw [pn]
      by_cases c : by_ n j = 0
      · rw [if_pos c]
        have ih := r_name_l hn f j (s := s) (M1 := M1) (by omega) (by omega) hT (by omega)
        rw [eq_true c] at e4
        simp (disch := omega) only [l_0, l_8, e_ltF, reduceIte, sh_s, e2, e4]
        rw [← sh_s, e3]
        exact ih
      · rw [if_neg c]
        obtain ⟨M', w1, w2⟩ := r_lays (c := by_ n j) hT (by omega) b1
        have ih := r_name_l hn f j (s := tp s (by_ n j)) (M1 := M') (by omega) (by omega) w2 (by show s.2 + 1 + j ≤ 88; omega)
        rw [eq_false c] at e4
        simp (disch := omega) only [l_0, l_8, e_ltF, reduceIte, sh_s, e2, e4, lN_i, w1, e_bd]
        rw [← sh_s, e3]
        exact ih
theorem r_name {n : Nat} (hn : wok n) {s : (Nat → Nat) × Nat} (hT : TM M M1 s) (hz : s.2 + 8 ≤ 88) : okS (pX11_spells M1 (lN n)) (fun M2 => TM M M2 (pn n 7 s)) := by
  obtain ⟨M', w1, w2⟩ := r_name_l hn fu 8 (by omega) (by rw [fu_eq]; omega) hT hz
  have e : sh 8 = nI 56 := rfl
  rw [pn, if_pos (wok_7 hn)] at w2
  unfold pX11_spells
  rw [l_56, ← e, w1, e_bd]
  exact okS_some w2
theorem r_says {n : Nat} (hn : wok n) {s : (Nat → Nat) × Nat} (hT : TM M M1 s) (hz : s.2 + 9 ≤ 88) : okS (pX11_says M1 (lN n)) (fun M2 => TM M M2 (pn n 7 (tp s 32))) := by
  obtain ⟨M2, w1, w2⟩ := r_lays (c := 32) hT (by omega) (by omega)
  obtain ⟨M3, x1, x2⟩ := r_name hn w2 (by show s.2 + 1 + 8 ≤ 88; omega)
  unfold pX11_says
  simp (disch := omega) only [l_0, l_1, l_2, l_3, l_4, l_5, l_6, l_7, l_8, l_9, l_10, l_11, l_12, l_13, l_14, l_15, l_16, l_17, l_18, l_19, l_20, l_21, l_22, l_23, l_24, l_25, l_26, l_27, l_28, l_29, l_30, l_31, l_32, l_33, l_34, l_35, l_36, l_40, l_41, l_48, l_56, l_57, l_59, l_60, l_61, l_62, l_63, l_79, l_81, l_88, l_93, l_97, l_99, l_105, l_117, l_121, l_122, l_125, l_127, l_131, l_179, l_185, l_193, l_197, l_200, l_201, l_210, l_255, l_390, l_400, l_616, l_900, l_940, l_999, l_1000, l_1024, e_ltT, e_ltF, e_leT, e_leF, e_eqT, e_eqF, e_cl, e_in, e_gd, e_bd, e_ne, e_en, e_nlt, e_ltn, e_len, e_nle, e_nn, e_z0, e_z1, nI_add, pk_mul, e_sub, Nf_app, e_refl, e_reflN, reduceIte, ite_true_, ite_false_, w1, x1]
  exact okS_some x2
theorem c_knotp (hnn : ∀ t, t < g 0 → oJ V2 1 t = lN (nn t) ∧ wok (nn t)) (hQ : WQ g) {s : (Nat → Nat) × Nat} {t r : Nat} (ht : t < g 0) (hr8 : 1 ≤ r ∧ r ≤ 8) (hT : TC W s) (hz : s.2 + 9 ≤ 79) : okS (pX7_putKnot W V2 (nI t) (nI r)) (fun W' => TC W' (kt nn s t r)) := by
  have g0 := w_g0 hQ
  obtain ⟨n1, n2⟩ := hnn t ht
  obtain ⟨W1, w1, w2⟩ := c_tput (c := 32) hT (by omega)
  obtain ⟨W2, x1, x2⟩ := c_name n2 w2 (by show s.2 + 1 + 7 ≤ 79; omega)
  have u := pn_le (nn t) 7 (tp s 32)
  have e : (tp s 32).2 = s.2 + 1 := rfl
  unfold pX7_putKnot kt
  by_cases c : 1 < r
  · obtain ⟨W3, y1, y2⟩ := c_tput (c := 48 + r) x2 (by omega)
    simp only [if_pos c]
    simp (disch := omega) only [l_0, l_1, l_2, l_3, l_4, l_5, l_6, l_7, l_8, l_9, l_10, l_11, l_12, l_13, l_14, l_15, l_16, l_17, l_18, l_19, l_20, l_21, l_22, l_23, l_24, l_25, l_26, l_27, l_28, l_29, l_30, l_31, l_32, l_33, l_34, l_35, l_36, l_40, l_41, l_48, l_56, l_57, l_59, l_60, l_61, l_62, l_63, l_79, l_81, l_88, l_93, l_97, l_99, l_105, l_117, l_121, l_122, l_125, l_127, l_131, l_179, l_185, l_193, l_197, l_200, l_201, l_210, l_255, l_390, l_400, l_616, l_900, l_940, l_999, l_1000, l_1024, e_ltT, e_ltF, e_leT, e_leF, e_eqT, e_eqF, e_cl, e_in, e_gd, e_bd, e_ne, e_en, e_nlt, e_ltn, e_len, e_nle, e_nn, e_z0, e_z1, nI_add, pk_mul, e_sub, Nf_app, e_refl, e_reflN, reduceIte, ite_true_, ite_false_, w1, n1, x1, y1]
    exact okS_some y2
  · simp only [if_neg c]
    simp (disch := omega) only [l_0, l_1, l_2, l_3, l_4, l_5, l_6, l_7, l_8, l_9, l_10, l_11, l_12, l_13, l_14, l_15, l_16, l_17, l_18, l_19, l_20, l_21, l_22, l_23, l_24, l_25, l_26, l_27, l_28, l_29, l_30, l_31, l_32, l_33, l_34, l_35, l_36, l_40, l_41, l_48, l_56, l_57, l_59, l_60, l_61, l_62, l_63, l_79, l_81, l_88, l_93, l_97, l_99, l_105, l_117, l_121, l_122, l_125, l_127, l_131, l_179, l_185, l_193, l_197, l_200, l_201, l_210, l_255, l_390, l_400, l_616, l_900, l_940, l_999, l_1000, l_1024, e_ltT, e_ltF, e_leT, e_leF, e_eqT, e_eqF, e_cl, e_in, e_gd, e_bd, e_ne, e_en, e_nlt, e_ltn, e_len, e_nle, e_nn, e_z0, e_z1, nI_add, pk_mul, e_sub, Nf_app, e_refl, e_reflN, reduceIte, ite_true_, ite_false_, w1, n1, x1]
    exact okS_some x2
theorem c_tag_l (hnn : ∀ t, t < g 0 → oJ V2 1 t = lN (nn t) ∧ wok (nn t)) (hQ : WQ g) (hW : WS N g) (hS : SR V g) {q : Nat} (hq : q < 6) : ∀ (f j k a : Nat) {s : (Nat → Nat) × Nat} {W : Ob}, k ≤ g (125 + q) → g (125 + q) - k ≤ j → g (125 + q) - k < f → a ≤ k → TC W s → s.2 ≤ 7 + 9 * (k - a) →
    okS (pX7_write_l46 V2 V (nI q) f (nI a) (nI k) W) (fun W' => TC W' (if k < g (125 + q) then wr g nn q j (k + ru (hr g q) (hr g q k) (g (125 + q) - k) k) (kt nn s (hr g q k) (a + ru (hr g q) (hr g q k) (g (125 + q) - k) k)) else s))
  | 0, _, _, _, _, _, _, _, h, _, _, _ => by omega
  | f + 1, j, k, a, s, W, h1, h2, h3, h4, hT, hz => by
    have hL := w_long hW hq
    have g0 := w_g0 hQ
    rw [pX7_write_l46]
    by_cases c : k = g (125 + q)
    · simp (disch := omega) only [l_0, l_1, l_2, l_3, l_4, l_5, l_6, l_7, l_8, l_9, l_10, l_11, l_12, l_13, l_14, l_15, l_16, l_17, l_18, l_19, l_20, l_21, l_22, l_23, l_24, l_25, l_26, l_27, l_28, l_29, l_30, l_31, l_32, l_33, l_34, l_35, l_36, l_40, l_41, l_48, l_56, l_57, l_59, l_60, l_61, l_62, l_63, l_79, l_81, l_88, l_93, l_97, l_99, l_105, l_117, l_121, l_122, l_125, l_127, l_131, l_179, l_185, l_193, l_197, l_200, l_201, l_210, l_255, l_390, l_400, l_616, l_900, l_940, l_999, l_1000, l_1024, e_ltT, e_ltF, e_leT, e_leF, e_eqT, e_eqF, e_cl, e_in, e_gd, e_bd, e_ne, e_en, e_nlt, e_ltn, e_len, e_nle, e_nn, e_z0, e_z1, nI_add, pk_mul, e_sub, Nf_app, e_refl, e_reflN, reduceIte, ite_true_, ite_false_, s_1 hS]
      refine okS_some ?_
      rw [if_neg (by omega)]
      exact hT
    · have hk : k < g (125 + q) := by omega
      have l1 := c_layer hW hS hq hk
      have t1 := w_th hW hq hk
      obtain ⟨i, hi⟩ : ∃ i, g (125 + q) - k = i + 1 := ⟨g (125 + q) - k - 1, by omega⟩
      have hi2 : g (125 + q) - (k + 1) = i := by omega
      have hru : ru (hr g q) (hr g q k) (g (125 + q) - k) k = ru (hr g q) (hr g q k) i (k + 1) + 1 := by rw [hi, ru, if_pos rfl]
      rw [if_pos hk, hru]
      by_cases c1 : k + 1 < g (125 + q) ∧ hr g q k = hr g q (k + 1)
      · have l2 := c_layer hW hS hq c1.1
        have t2 := w_th hW hq c1.1
        obtain ⟨W', w1, w2⟩ := c_tag_l hnn hQ hW hS hq f j (k + 1) (a + 1) (s := s) (W := W) (by omega) (by omega) (by omega) (by omega) hT (by rw [show k + 1 - (a + 1) = k - a by omega]; exact hz)
        rw [if_pos c1.1, hi2, ← c1.2] at w2
        have cv : g (131 + 8 * q + k) = g (131 + 8 * q + (k + 1)) := c1.2
        simp (disch := omega) only [l_0, l_1, l_2, l_3, l_4, l_5, l_6, l_7, l_8, l_9, l_10, l_11, l_12, l_13, l_14, l_15, l_16, l_17, l_18, l_19, l_20, l_21, l_22, l_23, l_24, l_25, l_26, l_27, l_28, l_29, l_30, l_31, l_32, l_33, l_34, l_35, l_36, l_40, l_41, l_48, l_56, l_57, l_59, l_60, l_61, l_62, l_63, l_79, l_81, l_88, l_93, l_97, l_99, l_105, l_117, l_121, l_122, l_125, l_127, l_131, l_179, l_185, l_193, l_197, l_200, l_201, l_210, l_255, l_390, l_400, l_616, l_900, l_940, l_999, l_1000, l_1024, e_ltT, e_ltF, e_leT, e_leF, e_eqT, e_eqF, e_cl, e_in, e_gd, e_bd, e_ne, e_en, e_nlt, e_ltn, e_len, e_nle, e_nn, e_z0, e_z1, nI_add, pk_mul, e_sub, Nf_app, e_refl, e_reflN, reduceIte, ite_true_, ite_false_, s_1 hS, l1, l2, w1]
        refine okS_some ?_
        rw [show k + (ru (hr g q) (hr g q k) i (k + 1) + 1) = k + 1 + ru (hr g q) (hr g q k) i (k + 1) by omega, show a + (ru (hr g q) (hr g q k) i (k + 1) + 1) = a + 1 + ru (hr g q) (hr g q k) i (k + 1) by omega]
        exact w2
      · have r0 : ru (hr g q) (hr g q k) i (k + 1) = 0 := by
          cases i with
          | zero => rfl
          | succ i => rw [ru, if_neg (fun e => c1 ⟨by omega, e.symm⟩)]
        rw [r0, Nat.zero_add]
        obtain ⟨W1, w1, w2⟩ := c_knotp (r := a + 1) hnn hQ t1 (by omega) hT (by omega)
        have u := kt_le nn s (hr g q k) (a + 1)
        obtain ⟨j', rfl⟩ : ∃ j', j = j' + 1 := ⟨j - 1, by omega⟩
        obtain ⟨W2, x1, x2⟩ := c_tag_l hnn hQ hW hS hq f j' (k + 1) 0 (s := kt nn s (hr g q k) (a + 1)) (W := W1) (by omega) (by omega) (by omega) (by omega) w2 (by omega)
        rw [Nat.zero_add] at x2
        have fin : TC W2 (wr g nn q (j' + 1) (k + 1) (kt nn s (hr g q k) (a + 1))) := by rw [wr]; exact x2
        by_cases c2 : k + 1 < g (125 + q)
        · have l2 := c_layer hW hS hq c2
          have t2 := w_th hW hq c2
          have cv : ¬ g (131 + 8 * q + k) = g (131 + 8 * q + (k + 1)) := fun e => c1 ⟨c2, e⟩
          simp (disch := omega) only [l_0, l_1, l_2, l_3, l_4, l_5, l_6, l_7, l_8, l_9, l_10, l_11, l_12, l_13, l_14, l_15, l_16, l_17, l_18, l_19, l_20, l_21, l_22, l_23, l_24, l_25, l_26, l_27, l_28, l_29, l_30, l_31, l_32, l_33, l_34, l_35, l_36, l_40, l_41, l_48, l_56, l_57, l_59, l_60, l_61, l_62, l_63, l_79, l_81, l_88, l_93, l_97, l_99, l_105, l_117, l_121, l_122, l_125, l_127, l_131, l_179, l_185, l_193, l_197, l_200, l_201, l_210, l_255, l_390, l_400, l_616, l_900, l_940, l_999, l_1000, l_1024, e_ltT, e_ltF, e_leT, e_leF, e_eqT, e_eqF, e_cl, e_in, e_gd, e_bd, e_ne, e_en, e_nlt, e_ltn, e_len, e_nle, e_nn, e_z0, e_z1, nI_add, pk_mul, e_sub, Nf_app, e_refl, e_reflN, reduceIte, ite_true_, ite_false_, s_1 hS, l1, l2, w1, x1]
          exact okS_some fin
        · have l2 := c_layer_out hW hS hq (k := k + 1) (by omega) (by omega)
          simp (disch := omega) only [l_0, l_1, l_2, l_3, l_4, l_5, l_6, l_7, l_8, l_9, l_10, l_11, l_12, l_13, l_14, l_15, l_16, l_17, l_18, l_19, l_20, l_21, l_22, l_23, l_24, l_25, l_26, l_27, l_28, l_29, l_30, l_31, l_32, l_33, l_34, l_35, l_36, l_40, l_41, l_48, l_56, l_57, l_59, l_60, l_61, l_62, l_63, l_79, l_81, l_88, l_93, l_97, l_99, l_105, l_117, l_121, l_122, l_125, l_127, l_131, l_179, l_185, l_193, l_197, l_200, l_201, l_210, l_255, l_390, l_400, l_616, l_900, l_940, l_999, l_1000, l_1024, e_ltT, e_ltF, e_leT, e_leF, e_eqT, e_eqF, e_cl, e_in, e_gd, e_bd, e_ne, e_en, e_nlt, e_ltn, e_len, e_nle, e_nn, e_z0, e_z1, nI_add, pk_mul, e_sub, Nf_app, e_refl, e_reflN, reduceIte, ite_true_, ite_false_, s_1 hS, l1, l2, w1, x1]
          exact okS_some fin
theorem TM.o6 {s : (Nat → Nat) × Nat} (h : TM M M1 s) : oA M1 6 = oA M 6 := by
  obtain ⟨X, rfl, _⟩ := h
  simp (disch := omega) only [l_0, l_1, l_2, l_3, l_4, l_5, l_6, l_7, l_8, l_9, l_10, l_11, l_12, l_13, l_14, l_15, l_16, l_17, l_18, l_19, l_20, l_21, l_22, l_23, l_24, l_25, l_26, l_27, l_28, l_29, l_30, l_31, l_32, l_33, l_34, l_35, l_36, l_40, l_41, l_48, l_56, l_57, l_59, l_60, l_61, l_62, l_63, l_79, l_81, l_88, l_93, l_97, l_99, l_105, l_117, l_121, l_122, l_125, l_127, l_131, l_179, l_185, l_193, l_197, l_200, l_201, l_210, l_255, l_390, l_400, l_616, l_900, l_940, l_999, l_1000, l_1024, e_ltT, e_ltF, e_leT, e_leF, e_eqT, e_eqF, e_cl, e_in, e_gd, e_bd, e_ne, e_en, e_nlt, e_ltn, e_len, e_nle, e_nn, e_z0, e_z1, nI_add, pk_mul, e_sub, Nf_app, e_refl, e_reflN, reduceIte, ite_true_, ite_false_, oI_sI, oI_sL, oI_sW, oI_sA, oI_sJ, oI_sX, oL_sI, oL_sL, oL_sW, oL_sA, oL_sJ, oL_sX, oW_sI, oW_sL, oW_sW, oW_sA, oW_sJ, oW_sX, oA_sI, oA_sL, oA_sW, oA_sA, oA_sJ, oA_sX, oJ_sI, oJ_sL, oJ_sW, oJ_sA, oJ_sJ, oJ_sX, oX_sI, oX_sL, oX_sW, oX_sA, oX_sJ, oX_sX, Nat.reduceEqDiff, n10, n01, hr_app]
theorem TM.j9 {s : (Nat → Nat) × Nat} (h : TM M M1 s) : oJ M1 9 = oJ M 9 := by
  obtain ⟨X, rfl, _⟩ := h
  rfl
theorem r_run (hQ : WQ g) (hW : WS N g) (hM : oA M1 6 = Nf g) {q t : Nat} (hq : q < 6) (ht : t < g 0) : ∀ (f i k m : Nat), k + i = g (125 + q) → i < f → pX11_tag_l86 M1 (nI q) (nI t) f (nI k) (nI m) = some (nI (k + ru (hr g q) t i k), nI (m + ru (hr g q) t i k))
  | 0, _, _, _, _, h => by omega
  | f + 1, i, k, m, h1, h2 => by
    have hL := w_long hW hq
    have g0 := w_g0 hQ
    rw [pX11_tag_l86]
    cases i with
    | zero =>
      simp (disch := omega) only [l_0, l_1, l_2, l_3, l_4, l_5, l_6, l_7, l_8, l_9, l_10, l_11, l_12, l_13, l_14, l_15, l_16, l_17, l_18, l_19, l_20, l_21, l_22, l_23, l_24, l_25, l_26, l_27, l_28, l_29, l_30, l_31, l_32, l_33, l_34, l_35, l_36, l_40, l_41, l_48, l_56, l_57, l_59, l_60, l_61, l_62, l_63, l_79, l_81, l_88, l_93, l_97, l_99, l_105, l_117, l_121, l_122, l_125, l_127, l_131, l_179, l_185, l_193, l_197, l_200, l_201, l_210, l_255, l_390, l_400, l_616, l_900, l_940, l_999, l_1000, l_1024, e_ltT, e_ltF, e_leT, e_leF, e_eqT, e_eqF, e_cl, e_in, e_gd, e_bd, e_ne, e_en, e_nlt, e_ltn, e_len, e_nle, e_nn, e_z0, e_z1, nI_add, pk_mul, e_sub, Nf_app, e_refl, e_reflN, reduceIte, ite_true_, ite_false_, hM]
      rfl
    | succ i =>
      have t1 := w_th hW hq (k := k) (by omega)
      rw [ru, hr_app]
      by_cases c : g (131 + 8 * q + k) = t
      · have ih := r_run hQ hW hM hq ht f i (k + 1) (m + 1) (by omega) (by omega)
        rw [if_pos c]
        simp (disch := omega) only [l_0, l_1, l_2, l_3, l_4, l_5, l_6, l_7, l_8, l_9, l_10, l_11, l_12, l_13, l_14, l_15, l_16, l_17, l_18, l_19, l_20, l_21, l_22, l_23, l_24, l_25, l_26, l_27, l_28, l_29, l_30, l_31, l_32, l_33, l_34, l_35, l_36, l_40, l_41, l_48, l_56, l_57, l_59, l_60, l_61, l_62, l_63, l_79, l_81, l_88, l_93, l_97, l_99, l_105, l_117, l_121, l_122, l_125, l_127, l_131, l_179, l_185, l_193, l_197, l_200, l_201, l_210, l_255, l_390, l_400, l_616, l_900, l_940, l_999, l_1000, l_1024, e_ltT, e_ltF, e_leT, e_leF, e_eqT, e_eqF, e_cl, e_in, e_gd, e_bd, e_ne, e_en, e_nlt, e_ltn, e_len, e_nle, e_nn, e_z0, e_z1, nI_add, pk_mul, e_sub, Nf_app, e_refl, e_reflN, reduceIte, ite_true_, ite_false_, hM, ih]
        rw [show k + 1 + ru (hr g q) t i (k + 1) = k + (ru (hr g q) t i (k + 1) + 1) by omega, show m + 1 + ru (hr g q) t i (k + 1) = m + (ru (hr g q) t i (k + 1) + 1) by omega]
      · rw [if_neg c]
        simp (disch := omega) only [l_0, l_1, l_2, l_3, l_4, l_5, l_6, l_7, l_8, l_9, l_10, l_11, l_12, l_13, l_14, l_15, l_16, l_17, l_18, l_19, l_20, l_21, l_22, l_23, l_24, l_25, l_26, l_27, l_28, l_29, l_30, l_31, l_32, l_33, l_34, l_35, l_36, l_40, l_41, l_48, l_56, l_57, l_59, l_60, l_61, l_62, l_63, l_79, l_81, l_88, l_93, l_97, l_99, l_105, l_117, l_121, l_122, l_125, l_127, l_131, l_179, l_185, l_193, l_197, l_200, l_201, l_210, l_255, l_390, l_400, l_616, l_900, l_940, l_999, l_1000, l_1024, e_ltT, e_ltF, e_leT, e_leF, e_eqT, e_eqF, e_cl, e_in, e_gd, e_bd, e_ne, e_en, e_nlt, e_ltn, e_len, e_nle, e_nn, e_z0, e_z1, nI_add, pk_mul, e_sub, Nf_app, e_refl, e_reflN, reduceIte, ite_true_, ite_false_, hM]
        rfl
theorem r_tag_l (hnn : ∀ t, t < g 0 → oJ M 9 t = lN (nn t) ∧ wok (nn t)) (hQ : WQ g) (hW : WS N g) (hM : oA M 6 = Nf g) {q : Nat} (hq : q < 6) : ∀ (f j k : Nat) {s : (Nat → Nat) × Nat} {M1 : Ob}, k ≤ g (125 + q) → g (125 + q) - k ≤ j → j < f → TM M M1 s → s.2 ≤ 7 + 9 * k → okS (pX11_tag_l54 (nI q) f (nI k) M1) (fun M2 => TM M M2 (wr g nn q j k s))
  | 0, _, _, _, _, _, _, h, _, _ => by omega
  | f + 1, j, k, s, M1, h1, h2, h3, hT, hz => by
    have hL := w_long hW hq
    have g0 := w_g0 hQ
    have hM1 : oA M1 6 = Nf g := hT.o6.trans hM
    rw [pX11_tag_l54]
    by_cases c : k = g (125 + q)
    · have e : wr g nn q j k s = s := by
        cases j with
        | zero => rfl
        | succ j => rw [wr, if_neg (by omega)]
      rw [e]
      simp (disch := omega) only [l_0, l_1, l_2, l_3, l_4, l_5, l_6, l_7, l_8, l_9, l_10, l_11, l_12, l_13, l_14, l_15, l_16, l_17, l_18, l_19, l_20, l_21, l_22, l_23, l_24, l_25, l_26, l_27, l_28, l_29, l_30, l_31, l_32, l_33, l_34, l_35, l_36, l_40, l_41, l_48, l_56, l_57, l_59, l_60, l_61, l_62, l_63, l_79, l_81, l_88, l_93, l_97, l_99, l_105, l_117, l_121, l_122, l_125, l_127, l_131, l_179, l_185, l_193, l_197, l_200, l_201, l_210, l_255, l_390, l_400, l_616, l_900, l_940, l_999, l_1000, l_1024, e_ltT, e_ltF, e_leT, e_leF, e_eqT, e_eqF, e_cl, e_in, e_gd, e_bd, e_ne, e_en, e_nlt, e_ltn, e_len, e_nle, e_nn, e_z0, e_z1, nI_add, pk_mul, e_sub, Nf_app, e_refl, e_reflN, reduceIte, ite_true_, ite_false_, hM1]
      exact okS_some hT
    · have hk : k < g (125 + q) := by omega
      obtain ⟨j', rfl⟩ : ∃ j', j = j' + 1 := ⟨j - 1, by omega⟩
      have t1 := w_th hW hq hk
      obtain ⟨n1, n2⟩ := hnn _ t1
      have n3 : oJ M1 9 (g (131 + 8 * q + k)) = lN (nn (g (131 + 8 * q + k))) := by rw [hT.j9]; exact n1
      have rr := r_run hQ hW hM1 hq t1 fu (g (125 + q) - k) k 0 (by omega) (by rw [fu_eq]; omega)
      obtain ⟨i, hi⟩ : ∃ i, g (125 + q) - k = i + 1 := ⟨g (125 + q) - k - 1, by omega⟩
      have hru : 1 ≤ ru (hr g q) (hr g q k) (g (125 + q) - k) k := by rw [hi, ru, if_pos rfl]; omega
      have hru2 := ru_le (hr g q) (hr g q k) (g (125 + q) - k) k
      rw [Nat.zero_add, ← hr_app g q k] at rr
      rw [← hr_app g q k] at n2 n3 t1
      obtain ⟨M2, w1, w2⟩ := r_says n2 hT (by omega)
      have u := pn_le (nn (hr g q k)) 7 (tp s 32)
      have e : (tp s 32).2 = s.2 + 1 := rfl
      have uk := kt_le nn s (hr g q k) (ru (hr g q) (hr g q k) (g (125 + q) - k) k)
      rw [wr, if_pos hk]
      by_cases c1 : 1 < ru (hr g q) (hr g q k) (g (125 + q) - k) k
      · obtain ⟨M3, x1, x2⟩ := r_lays (c := 48 + ru (hr g q) (hr g q k) (g (125 + q) - k) k) w2 (by omega) (by omega)
        have x2 : TM M M3 (kt nn s (hr g q k) (ru (hr g q) (hr g q k) (g (125 + q) - k) k)) := by unfold kt; rw [if_pos c1]; exact x2
        have ih := r_tag_l hnn hQ hW hM hq f j' (k + ru (hr g q) (hr g q k) (g (125 + q) - k) k) (by omega) (by omega) (by omega) x2 (by omega)
        simp (disch := omega) only [l_0, l_1, l_2, l_3, l_4, l_5, l_6, l_7, l_8, l_9, l_10, l_11, l_12, l_13, l_14, l_15, l_16, l_17, l_18, l_19, l_20, l_21, l_22, l_23, l_24, l_25, l_26, l_27, l_28, l_29, l_30, l_31, l_32, l_33, l_34, l_35, l_36, l_40, l_41, l_48, l_56, l_57, l_59, l_60, l_61, l_62, l_63, l_79, l_81, l_88, l_93, l_97, l_99, l_105, l_117, l_121, l_122, l_125, l_127, l_131, l_179, l_185, l_193, l_197, l_200, l_201, l_210, l_255, l_390, l_400, l_616, l_900, l_940, l_999, l_1000, l_1024, e_ltT, e_ltF, e_leT, e_leF, e_eqT, e_eqF, e_cl, e_in, e_gd, e_bd, e_ne, e_en, e_nlt, e_ltn, e_len, e_nle, e_nn, e_z0, e_z1, nI_add, pk_mul, e_sub, Nf_app, e_refl, e_reflN, reduceIte, ite_true_, ite_false_, hM1, ← hr_app g q k, rr, n3, w1, x1]
        exact ih
      · have w2 : TM M M2 (kt nn s (hr g q k) (ru (hr g q) (hr g q k) (g (125 + q) - k) k)) := by unfold kt; rw [if_neg c1]; exact w2
        have ih := r_tag_l hnn hQ hW hM hq f j' (k + ru (hr g q) (hr g q k) (g (125 + q) - k) k) (by omega) (by omega) (by omega) w2 (by omega)
        simp (disch := omega) only [l_0, l_1, l_2, l_3, l_4, l_5, l_6, l_7, l_8, l_9, l_10, l_11, l_12, l_13, l_14, l_15, l_16, l_17, l_18, l_19, l_20, l_21, l_22, l_23, l_24, l_25, l_26, l_27, l_28, l_29, l_30, l_31, l_32, l_33, l_34, l_35, l_36, l_40, l_41, l_48, l_56, l_57, l_59, l_60, l_61, l_62, l_63, l_79, l_81, l_88, l_93, l_97, l_99, l_105, l_117, l_121, l_122, l_125, l_127, l_131, l_179, l_185, l_193, l_197, l_200, l_201, l_210, l_255, l_390, l_400, l_616, l_900, l_940, l_999, l_1000, l_1024, e_ltT, e_ltF, e_leT, e_leF, e_eqT, e_eqF, e_cl, e_in, e_gd, e_bd, e_ne, e_en, e_nlt, e_ltn, e_len, e_nle, e_nn, e_z0, e_z1, nI_add, pk_mul, e_sub, Nf_app, e_refl, e_reflN, reduceIte, ite_true_, ite_false_, hM1, ← hr_app g q k, rr, n3, w1]
        exact ih
end
