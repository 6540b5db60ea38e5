/-! tokens -/
def sk (tb : Nat → Nat) : Nat → Nat → Nat
  | 0, p => p
  | i + 1, p => if tb p = 32 ∨ tb p = 10 then sk tb i (p + 1) else p
theorem sk_rng (tb : Nat → Nat) : ∀ i p, p ≤ sk tb i p ∧ sk tb i p ≤ p + i
  | 0, p => ⟨Nat.le_refl _, Nat.le_refl _⟩
  | i + 1, p => by
    have := sk_rng tb i (p + 1)
    rw [sk]; split <;> omega
theorem sk_ext (tb : Nat → Nat) : ∀ i j p, i ≤ j → sk tb i p < p + i → sk tb j p = sk tb i p
  | 0, j, p, _, h => by rw [sk] at h; omega
  | i + 1, 0, p, h, _ => by omega
  | i + 1, j + 1, p, h, h2 => by
    rw [sk] at h2 ⊢
    rw [sk]
    by_cases c : tb p = 32 ∨ tb p = 10
    · rw [if_pos c] at h2 ⊢
      rw [if_pos c]
      exact sk_ext tb i j (p + 1) (by omega) (by omega)
    · rw [if_neg c, if_neg c]
theorem sk_nb (tb : Nat → Nat) : ∀ i p, sk tb i p < p + i → ¬ (tb (sk tb i p) = 32 ∨ tb (sk tb i p) = 10)
  | 0, p, h => by rw [sk] at h; omega
  | i + 1, p, h => by
    rw [sk] at h ⊢
    by_cases c : tb p = 32 ∨ tb p = 10
    · rw [if_pos c] at h ⊢; exact sk_nb tb i (p + 1) (by omega)
    · rw [if_neg c]; exact c
def sml (c : Nat) : Bool := decide (97 ≤ c ∧ c ≤ 122)
def dgt (c : Nat) : Bool := decide (48 ≤ c ∧ c ≤ 57)
def aln (c : Nat) : Bool := sml c || dgt c
def rn (tb : Nat → Nat) : Nat → Nat → Nat
  | 0, _ => 0
  | i + 1, p => if aln (tb p) = true then rn tb i (p + 1) + 1 else 0
theorem rn_le (tb : Nat → Nat) : ∀ i p, rn tb i p ≤ i
  | 0, _ => Nat.le_refl _
  | i + 1, p => by have := rn_le tb i (p + 1); rw [rn]; split <;> omega
def lc (tb : Nat → Nat) (p : Nat) : Nat → Nat
  | 0 => 0
  | j + 1 => lc tb p j + b01 (sml (tb (p + j)))
theorem b01_le (b : Bool) : b01 b ≤ 1 := by cases b <;> decide
theorem lc_le (tb : Nat → Nat) (p : Nat) : ∀ j, lc tb p j ≤ j
  | 0 => Nat.le_refl _
  | j + 1 => by have := lc_le tb p j; have := b01_le (sml (tb (p + j))); rw [lc]; omega
def wd (tb : Nat → Nat) (p : Nat) : Nat → Nat
  | 0 => 0
  | j + 1 => wd tb p j * 256 + tb (p + j)
def nb (tb : Nat → Nat) (p : Nat) : Nat → Nat
  | 0 => 0
  | j + 1 => nb tb p j * 10 + tb (p + j) - 48
theorem wd_lt {tb : Nat → Nat} (hb : ∀ i, tb i < 256) (p : Nat) : ∀ j, wd tb p j < 256 ^ j
  | 0 => by simp [wd]
  | j + 1 => by
    have := wd_lt hb p j
    have := hb (p + j)
    rw [wd, Nat.pow_succ]; omega
/-- every byte of a word of letters is small -/
theorem wd_by {tb : Nat → Nat} (hb : ∀ i, tb i < 256) (p : Nat) : ∀ j, lc tb p j = j → ∀ i, by_ (wd tb p j) i < 128
  | 0, _, i => by
    have : wd tb p 0 = 0 := rfl
    unfold by_
    rw [this, Nat.zero_div]; decide
  | j + 1, h, i => by
    rw [lc] at h
    have h1 := lc_le tb p j
    have h2 := b01_le (sml (tb (p + j)))
    have hs : sml (tb (p + j)) = true := by
      cases c : sml (tb (p + j)) with
      | true => rfl
      | false => rw [c, b01_f] at h; omega
    have hc := of_decide_eq_true hs
    have ih := wd_by hb p j (by omega)
    unfold by_ at ih ⊢
    rw [wd]
    cases i with
    | zero =>
      have : (wd tb p j * 256 + tb (p + j)) / 2 ^ (8 * 0) = wd tb p j * 256 + tb (p + j) := by rw [Nat.mul_zero, Nat.pow_zero, Nat.div_one]
      rw [this]; omega
    | succ i =>
      have e : 2 ^ (8 * (i + 1)) = 256 * 2 ^ (8 * i) := by
        rw [show 8 * (i + 1) = 8 + 8 * i by omega, Nat.pow_add]
      rw [e, ← Nat.div_div_eq_div_mul, show (wd tb p j * 256 + tb (p + j)) / 256 = wd tb p j by have := hb (p + j); omega]
      exact ih i
theorem nb_lt {tb : Nat → Nat} (p : Nat) : ∀ j, j ≤ 3 → (∀ i, i < j → dgt (tb (p + i)) = true) → nb tb p j < 10 ^ j
  | 0, _, _ => by simp [nb]
  | j + 1, h, hd => by
    have ih := nb_lt p j (by omega) (fun i hi => hd i (by omega))
    have := of_decide_eq_true (hd j (by omega))
    rw [nb, Nat.pow_succ]; omega
def wcN (i : Nat) : Nat := (wCodes.getD i 0).toNatClampNeg
theorem wcA : ∀ i, i < 22 → wCode i = lN (wcN i) ∧ wcN i < 2 ^ 56 := by decide +kernel
theorem wc_inj : ∀ i, i < 22 → ∀ j, j < 22 → wcN i = wcN j → i = j := by decide +kernel
def wfl (w : Nat) : Nat → Nat → Option Nat
  | 0, _ => none
  | k + 1, i => if wcN i = w then some i else wfl w k (i + 1)
def wfind (w : Nat) : Option Nat := wfl w 22 0
theorem wfl_some (w : Nat) : ∀ k i j, wfl w k i = some j → wcN j = w ∧ j < i + k
  | 0, _, _, h => nomatch h
  | k + 1, i, j, h => by
    rw [wfl] at h
    split at h
    · next e => cases h; exact ⟨e, by omega⟩
    · have := wfl_some w k (i + 1) j h; omega
theorem wfl_none (w : Nat) : ∀ k i, wfl w k i = none → ∀ j, i ≤ j → j < i + k → wcN j ≠ w
  | 0, _, _, j, h1, h2 => by omega
  | k + 1, i, h, j, h1, h2 => by
    rw [wfl] at h
    split at h
    · cases h
    · next e =>
      by_cases c : j = i
      · rw [c]; exact e
      · exact wfl_none w k (i + 1) h j (by omega) (by omega)
theorem wfind_iff {w i : Nat} (hi : i < 22) : wfind w = some i ↔ w = wcN i := by
  constructor
  · intro h; exact (wfl_some w 22 0 i h).1.symm
  · rintro rfl
    cases c : wfind (wcN i) with
    | none => exact absurd rfl (wfl_none _ 22 0 c i (by omega) (by omega))
    | some j =>
      obtain ⟨h1, h2⟩ := wfl_some _ 22 0 j c
      rw [wc_inj j (by omega) i hi h1]
theorem wfind_ok (w : Nat) : wOk (wfind w) = true := by
  cases c : wfind w with
  | none => rfl
  | some j =>
    have := (wfl_some _ 22 0 j c).2
    show decide (j < 22) = true
    exact decide_eq_true (by omega)
theorem c_of_l {w : Nat} (hw : w < 2 ^ 63) : ∀ (f k i : Nat), i + k = 22 → k < f → pX9_of_l2 (lN w) f (nI i) = some (wfl w k i)
  | 0, _, _, _, h => by omega
  | f + 1, k, i, h1, h2 => by
    rw [pX9_of_l2]
    cases k with
    | zero =>
      simp (disch := omega) only [l_0, l_1, l_2, l_3, l_4, l_5, l_6, l_7, l_8, l_9, l_10, l_11, l_12, l_13, l_14, l_15, l_16, l_17, l_18, l_19, l_20, l_21, l_22, l_23, l_24, l_25, l_26, l_27, l_28, l_29, l_30, l_31, l_32, l_33, l_34, l_35, l_36, l_40, l_41, l_48, l_56, l_57, l_59, l_60, l_61, l_62, l_63, l_79, l_81, l_88, l_93, l_97, l_99, l_105, l_117, l_121, l_122, l_125, l_127, l_131, l_179, l_185, l_193, l_197, l_200, l_201, l_210, l_255, l_390, l_400, l_616, l_900, l_940, l_999, l_1000, l_1024, e_ltT, e_ltF, e_leT, e_leF, e_eqT, e_eqF, e_cl, e_in, e_gd, e_bd, e_ne, e_en, e_nlt, e_ltn, e_len, e_nle, e_nn, e_z0, e_z1, nI_add, pk_mul, e_sub, Nf_app, e_refl, e_reflN, reduceIte, ite_true_, ite_false_, h1]
      rfl
    | succ k =>
      obtain ⟨e1, e2⟩ := wcA i (by omega)
      have eq := lw_eq (a := wcN i) (b := w) (by omega) hw
      rw [wfl]
      by_cases c : wcN i = w
      · rw [if_pos c]
        rw [eq_true c] at eq
        simp (disch := omega) only [l_0, l_1, l_2, l_3, l_4, l_5, l_6, l_7, l_8, l_9, l_10, l_11, l_12, l_13, l_14, l_15, l_16, l_17, l_18, l_19, l_20, l_21, l_22, l_23, l_24, l_25, l_26, l_27, l_28, l_29, l_30, l_31, l_32, l_33, l_34, l_35, l_36, l_40, l_41, l_48, l_56, l_57, l_59, l_60, l_61, l_62, l_63, l_79, l_81, l_88, l_93, l_97, l_99, l_105, l_117, l_121, l_122, l_125, l_127, l_131, l_179, l_185, l_193, l_197, l_200, l_201, l_210, l_255, l_390, l_400, l_616, l_900, l_940, l_999, l_1000, l_1024, e_ltT, e_ltF, e_leT, e_leF, e_eqT, e_eqF, e_cl, e_in, e_gd, e_bd, e_ne, e_en, e_nlt, e_ltn, e_len, e_nle, e_nn, e_z0, e_z1, nI_add, pk_mul, e_sub, Nf_app, e_refl, e_reflN, reduceIte, ite_true_, ite_false_, e1, eq]
      · rw [if_neg c]
        rw [eq_false c] at eq
        have ih := c_of_l hw f k (i + 1) (by omega) (by omega)
        simp (disch := omega) only [l_0, l_1, l_2, l_3, l_4, l_5, l_6, l_7, l_8, l_9, l_10, l_11, l_12, l_13, l_14, l_15, l_16, l_17, l_18, l_19, l_20, l_21, l_22, l_23, l_24, l_25, l_26, l_27, l_28, l_29, l_30, l_31, l_32, l_33, l_34, l_35, l_36, l_40, l_41, l_48, l_56, l_57, l_59, l_60, l_61, l_62, l_63, l_79, l_81, l_88, l_93, l_97, l_99, l_105, l_117, l_121, l_122, l_125, l_127, l_131, l_179, l_185, l_193, l_197, l_200, l_201, l_210, l_255, l_390, l_400, l_616, l_900, l_940, l_999, l_1000, l_1024, e_ltT, e_ltF, e_leT, e_leF, e_eqT, e_eqF, e_cl, e_in, e_gd, e_bd, e_ne, e_en, e_nlt, e_ltn, e_len, e_nle, e_nn, e_z0, e_z1, nI_add, pk_mul, e_sub, Nf_app, e_refl, e_reflN, reduceIte, ite_true_, ite_false_, e1, eq, ih]
theorem c_of {w : Nat} (hw : w < 2 ^ 63) : pX9_of (lN w) = some (wfind w) := c_of_l hw fu 22 0 (by omega) (by rw [fu_eq]; omega)
/-- what the reading of a token leaves as it was -/
def FC (V W : Ob) : Prop := (∀ k, k ≠ 3 → k ≠ 4 → k ≠ 5 → k ≠ 6 → oI W k = oI V k) ∧ oA W 0 = oA V 0
def NF (M M' : Ob) : Prop := (∀ k, k ≠ 4 → k ≠ 11 → k ≠ 12 → k ≠ 13 → k ≠ 14 → oI M' k = oI M k) ∧ (∀ k, oA M' k = oA M k) ∧ (∀ k, oJ M' k = oJ M k)
theorem FC.refl (V : Ob) : FC V V := ⟨fun _ _ _ _ _ => rfl, rfl⟩
theorem FC.trans {V W X : Ob} (a : FC V W) (b : FC W X) : FC V X := ⟨fun k h1 h2 h3 h4 => (b.1 k h1 h2 h3 h4).trans (a.1 k h1 h2 h3 h4), b.2.trans a.2⟩
theorem NF.refl (M : Ob) : NF M M := ⟨fun _ _ _ _ _ _ => rfl, fun _ => rfl, fun _ => rfl⟩
theorem NF.trans {M M1 M2 : Ob} (a : NF M M1) (b : NF M1 M2) : NF M M2 := ⟨fun k h1 h2 h3 h4 h5 => (b.1 k h1 h2 h3 h4 h5).trans (a.1 k h1 h2 h3 h4 h5), fun k => (b.2.1 k).trans (a.2.1 k), fun k => (b.2.2 k).trans (a.2.2 k)⟩
theorem NF.i {M M' : Ob} (h : NF M M') (k : Nat) (v : Int32) (hk : k = 4 ∨ k = 11 ∨ k = 12 ∨ k = 13 ∨ k = 14) : NF M (sI M' k v) := ⟨fun j h1 h2 h3 h4 h5 => by rw [oI_sI, if_neg (by omega)]; exact h.1 j h1 h2 h3 h4 h5, fun j => h.2.1 j, fun j => h.2.2 j⟩
theorem NF.l {M M' : Ob} (h : NF M M') (k : Nat) (v : Int64) : NF M (sL M' k v) := ⟨fun j h1 h2 h3 h4 h5 => h.1 j h1 h2 h3 h4 h5, fun j => h.2.1 j, fun j => h.2.2 j⟩
theorem FC.i {M M' : Ob} (h : FC M M') (k : Nat) (v : Int32) (hk : k = 3 ∨ k = 4 ∨ k = 5 ∨ k = 6) : FC M (sI M' k v) := ⟨fun j h1 h2 h3 h4 => by rw [oI_sI, if_neg (by omega)]; exact h.1 j h1 h2 h3 h4, h.2⟩
theorem FC.l {M M' : Ob} (h : FC M M') (k : Nat) (v : Int64) : FC M (sL M' k v) := ⟨fun j h1 h2 h3 h4 => h.1 j h1 h2 h3 h4, h.2⟩
theorem FC.w {M M' : Ob} (h : FC M M') (k : Nat) (v : Option Nat) : FC M (sW M' k v) := ⟨fun j h1 h2 h3 h4 => h.1 j h1 h2 h3 h4, h.2⟩
theorem TB.of {V W M M' : Ob} {tb : Nat → Nat} (h : TB V M tb) (a : FC V W) (b : NF M M') : TB W M' tb := ⟨fun i => by rw [a.2]; exact h.1 i, fun i => by rw [b.2.1]; exact h.2.1 i, h.2.2⟩
section
variable {tb : Nat → Nat} {V M : Ob} {z lim : Nat}
theorem c_skip (hb : ∀ i, oA V 0 i = nI (tb i)) (hb2 : ∀ i, tb i < 256) {st : Nat} (hst : st ≤ 940) : ∀ (f i p : Nat), p + i = st ∨ (i = 0 ∧ st ≤ p) → p < 2000 → i < f → pX8_advance_l12 (nI st) f (sI V 3 (nI p)) = some (sI V 3 (nI (sk tb i p)))
  | 0, _, _, _, _, h => by omega
  | f + 1, i, p, h1, hp, h2 => by
    rw [pX8_advance_l12]
    cases i with
    | zero =>
      simp (disch := omega) only [l_0, l_1, l_2, l_3, l_4, l_5, l_6, l_7, l_8, l_9, l_10, l_11, l_12, l_13, l_14, l_15, l_16, l_17, l_18, l_19, l_20, l_21, l_22, l_23, l_24, l_25, l_26, l_27, l_28, l_29, l_30, l_31, l_32, l_33, l_34, l_35, l_36, l_40, l_41, l_48, l_56, l_57, l_59, l_60, l_61, l_62, l_63, l_79, l_81, l_88, l_93, l_97, l_99, l_105, l_117, l_121, l_122, l_125, l_127, l_131, l_179, l_185, l_193, l_197, l_200, l_201, l_210, l_255, l_390, l_400, l_616, l_900, l_940, l_999, l_1000, l_1024, e_ltT, e_ltF, e_leT, e_leF, e_eqT, e_eqF, e_cl, e_in, e_gd, e_bd, e_ne, e_en, e_nlt, e_ltn, e_len, e_nle, e_nn, e_z0, e_z1, nI_add, pk_mul, e_sub, Nf_app, e_refl, e_reflN, reduceIte, ite_true_, ite_false_, oI_sI, oI_sL, oI_sW, oI_sA, oI_sJ, oI_sX, oL_sI, oL_sL, oL_sW, oL_sA, oL_sJ, oL_sX, oW_sI, oW_sL, oW_sW, oW_sA, oW_sJ, oW_sX, oA_sI, oA_sL, oA_sW, oA_sA, oA_sJ, oA_sX, oJ_sI, oJ_sL, oJ_sW, oJ_sA, oJ_sJ, oJ_sX, oX_sI, oX_sL, oX_sW, oX_sA, oX_sJ, oX_sX, Nat.reduceEqDiff, n10, n01, hst]
      rfl
    | succ i =>
      have b := hb2 p
      rw [sk]
      by_cases c : tb p = 32 ∨ tb p = 10
      · have ih := c_skip hb hb2 hst f i (p + 1) (by omega) (by omega) (by omega)
        rw [if_pos c]
        by_cases c1 : tb p = 32
        · simp (disch := omega) only [l_0, l_1, l_2, l_3, l_4, l_5, l_6, l_7, l_8, l_9, l_10, l_11, l_12, l_13, l_14, l_15, l_16, l_17, l_18, l_19, l_20, l_21, l_22, l_23, l_24, l_25, l_26, l_27, l_28, l_29, l_30, l_31, l_32, l_33, l_34, l_35, l_36, l_40, l_41, l_48, l_56, l_57, l_59, l_60, l_61, l_62, l_63, l_79, l_81, l_88, l_93, l_97, l_99, l_105, l_117, l_121, l_122, l_125, l_127, l_131, l_179, l_185, l_193, l_197, l_200, l_201, l_210, l_255, l_390, l_400, l_616, l_900, l_940, l_999, l_1000, l_1024, e_ltT, e_ltF, e_leT, e_leF, e_eqT, e_eqF, e_cl, e_in, e_gd, e_bd, e_ne, e_en, e_nlt, e_ltn, e_len, e_nle, e_nn, e_z0, e_z1, nI_add, pk_mul, e_sub, Nf_app, e_refl, e_reflN, reduceIte, ite_true_, ite_false_, oI_sI, oI_sL, oI_sW, oI_sA, oI_sJ, oI_sX, oL_sI, oL_sL, oL_sW, oL_sA, oL_sJ, oL_sX, oW_sI, oW_sL, oW_sW, oW_sA, oW_sJ, oW_sX, oA_sI, oA_sL, oA_sW, oA_sA, oA_sJ, oA_sX, oJ_sI, oJ_sL, oJ_sW, oJ_sA, oJ_sJ, oJ_sX, oX_sI, oX_sL, oX_sW, oX_sA, oX_sJ, oX_sX, Nat.reduceEqDiff, n10, n01, hb, pX8_advance_j48, sI_sI, ih]
        · simp (disch := omega) only [l_0, l_1, l_2, l_3, l_4, l_5, l_6, l_7, l_8, l_9, l_10, l_11, l_12, l_13, l_14, l_15, l_16, l_17, l_18, l_19, l_20, l_21, l_22, l_23, l_24, l_25, l_26, l_27, l_28, l_29, l_30, l_31, l_32, l_33, l_34, l_35, l_36, l_40, l_41, l_48, l_56, l_57, l_59, l_60, l_61, l_62, l_63, l_79, l_81, l_88, l_93, l_97, l_99, l_105, l_117, l_121, l_122, l_125, l_127, l_131, l_179, l_185, l_193, l_197, l_200, l_201, l_210, l_255, l_390, l_400, l_616, l_900, l_940, l_999, l_1000, l_1024, e_ltT, e_ltF, e_leT, e_leF, e_eqT, e_eqF, e_cl, e_in, e_gd, e_bd, e_ne, e_en, e_nlt, e_ltn, e_len, e_nle, e_nn, e_z0, e_z1, nI_add, pk_mul, e_sub, Nf_app, e_refl, e_reflN, reduceIte, ite_true_, ite_false_, oI_sI, oI_sL, oI_sW, oI_sA, oI_sJ, oI_sX, oL_sI, oL_sL, oL_sW, oL_sA, oL_sJ, oL_sX, oW_sI, oW_sL, oW_sW, oW_sA, oW_sJ, oW_sX, oA_sI, oA_sL, oA_sW, oA_sA, oA_sJ, oA_sX, oJ_sI, oJ_sL, oJ_sW, oJ_sA, oJ_sJ, oJ_sX, oX_sI, oX_sL, oX_sW, oX_sA, oX_sJ, oX_sX, Nat.reduceEqDiff, n10, n01, hb, pX8_advance_j48, sI_sI, ih]
      · rw [if_neg c]
        simp (disch := omega) only [l_0, l_1, l_2, l_3, l_4, l_5, l_6, l_7, l_8, l_9, l_10, l_11, l_12, l_13, l_14, l_15, l_16, l_17, l_18, l_19, l_20, l_21, l_22, l_23, l_24, l_25, l_26, l_27, l_28, l_29, l_30, l_31, l_32, l_33, l_34, l_35, l_36, l_40, l_41, l_48, l_56, l_57, l_59, l_60, l_61, l_62, l_63, l_79, l_81, l_88, l_93, l_97, l_99, l_105, l_117, l_121, l_122, l_125, l_127, l_131, l_179, l_185, l_193, l_197, l_200, l_201, l_210, l_255, l_390, l_400, l_616, l_900, l_940, l_999, l_1000, l_1024, e_ltT, e_ltF, e_leT, e_leF, e_eqT, e_eqF, e_cl, e_in, e_gd, e_bd, e_ne, e_en, e_nlt, e_ltn, e_len, e_nle, e_nn, e_z0, e_z1, nI_add, pk_mul, e_sub, Nf_app, e_refl, e_reflN, reduceIte, ite_true_, ite_false_, oI_sI, oI_sL, oI_sW, oI_sA, oI_sJ, oI_sX, oL_sI, oL_sL, oL_sW, oL_sA, oL_sJ, oL_sX, oW_sI, oW_sL, oW_sW, oW_sA, oW_sJ, oW_sX, oA_sI, oA_sL, oA_sW, oA_sA, oA_sJ, oA_sX, oJ_sI, oJ_sL, oJ_sW, oJ_sA, oJ_sJ, oJ_sX, oX_sI, oX_sL, oX_sW, oX_sA, oX_sJ, oX_sX, Nat.reduceEqDiff, n10, n01, hb]
theorem r_peek (hb : ∀ i, oA M 1 i &&& nI 255 = nI (tb i)) (hz : oI M 3 = nI z) (hz9 : z ≤ 940) {p : Nat} (hp : oI M 4 = nI p) (hp2 : p < 2000) : pX11_peek M = some (if p < z then nI (tb p) else -nI 1) := by
  unfold pX11_peek
  by_cases c : p < z
  · rw [if_pos c]
    simp (disch := omega) only [l_0, l_1, l_2, l_3, l_4, l_5, l_6, l_7, l_8, l_9, l_10, l_11, l_12, l_13, l_14, l_15, l_16, l_17, l_18, l_19, l_20, l_21, l_22, l_23, l_24, l_25, l_26, l_27, l_28, l_29, l_30, l_31, l_32, l_33, l_34, l_35, l_36, l_40, l_41, l_48, l_56, l_57, l_59, l_60, l_61, l_62, l_63, l_79, l_81, l_88, l_93, l_97, l_99, l_105, l_117, l_121, l_122, l_125, l_127, l_131, l_179, l_185, l_193, l_197, l_200, l_201, l_210, l_255, l_390, l_400, l_616, l_900, l_940, l_999, l_1000, l_1024, e_ltT, e_ltF, e_leT, e_leF, e_eqT, e_eqF, e_cl, e_in, e_gd, e_bd, e_ne, e_en, e_nlt, e_ltn, e_len, e_nle, e_nn, e_z0, e_z1, nI_add, pk_mul, e_sub, Nf_app, e_refl, e_reflN, reduceIte, ite_true_, ite_false_, hz, hp, hb]
  · rw [if_neg c]
    simp (disch := omega) only [l_0, l_1, l_2, l_3, l_4, l_5, l_6, l_7, l_8, l_9, l_10, l_11, l_12, l_13, l_14, l_15, l_16, l_17, l_18, l_19, l_20, l_21, l_22, l_23, l_24, l_25, l_26, l_27, l_28, l_29, l_30, l_31, l_32, l_33, l_34, l_35, l_36, l_40, l_41, l_48, l_56, l_57, l_59, l_60, l_61, l_62, l_63, l_79, l_81, l_88, l_93, l_97, l_99, l_105, l_117, l_121, l_122, l_125, l_127, l_131, l_179, l_185, l_193, l_197, l_200, l_201, l_210, l_255, l_390, l_400, l_616, l_900, l_940, l_999, l_1000, l_1024, e_ltT, e_ltF, e_leT, e_leF, e_eqT, e_eqF, e_cl, e_in, e_gd, e_bd, e_ne, e_en, e_nlt, e_ltn, e_len, e_nle, e_nn, e_z0, e_z1, nI_add, pk_mul, e_sub, Nf_app, e_refl, e_reflN, reduceIte, ite_true_, ite_false_, hz, hp]
theorem r_skip (hb : ∀ i, oA M 1 i &&& nI 255 = nI (tb i)) (hb2 : ∀ i, tb i < 256) (hz : oI M 3 = nI z) (hz9 : z ≤ 940) : ∀ (f i p : Nat), p + i = z → i < f → pX11_next_l0 f (sI M 4 (nI p)) = some (sI M 4 (nI (sk tb i p)))
  | 0, _, _, _, h => by omega
  | f + 1, i, p, h1, h2 => by
    have pk := r_peek (M := sI M 4 (nI p)) (tb := tb) (z := z) (p := p) hb hz hz9 (by rw [oI_sI, if_pos rfl]) (by omega)
    rw [pX11_next_l0]
    cases i with
    | zero =>
      rw [if_neg (by omega)] at pk
      simp (disch := omega) only [l_0, l_1, l_2, l_3, l_4, l_5, l_6, l_7, l_8, l_9, l_10, l_11, l_12, l_13, l_14, l_15, l_16, l_17, l_18, l_19, l_20, l_21, l_22, l_23, l_24, l_25, l_26, l_27, l_28, l_29, l_30, l_31, l_32, l_33, l_34, l_35, l_36, l_40, l_41, l_48, l_56, l_57, l_59, l_60, l_61, l_62, l_63, l_79, l_81, l_88, l_93, l_97, l_99, l_105, l_117, l_121, l_122, l_125, l_127, l_131, l_179, l_185, l_193, l_197, l_200, l_201, l_210, l_255, l_390, l_400, l_616, l_900, l_940, l_999, l_1000, l_1024, e_ltT, e_ltF, e_leT, e_leF, e_eqT, e_eqF, e_cl, e_in, e_gd, e_bd, e_ne, e_en, e_nlt, e_ltn, e_len, e_nle, e_nn, e_z0, e_z1, nI_add, pk_mul, e_sub, Nf_app, e_refl, e_reflN, reduceIte, ite_true_, ite_false_, pk]
      rfl
    | succ i =>
      have b := hb2 p
      rw [if_pos (by omega)] at pk
      rw [sk]
      by_cases c : tb p = 32 ∨ tb p = 10
      · have ih := r_skip hb hb2 hz hz9 f i (p + 1) (by omega) (by omega)
        rw [if_pos c]
        by_cases c1 : tb p = 32
        · simp (disch := omega) only [l_0, l_1, l_2, l_3, l_4, l_5, l_6, l_7, l_8, l_9, l_10, l_11, l_12, l_13, l_14, l_15, l_16, l_17, l_18, l_19, l_20, l_21, l_22, l_23, l_24, l_25, l_26, l_27, l_28, l_29, l_30, l_31, l_32, l_33, l_34, l_35, l_36, l_40, l_41, l_48, l_56, l_57, l_59, l_60, l_61, l_62, l_63, l_79, l_81, l_88, l_93, l_97, l_99, l_105, l_117, l_121, l_122, l_125, l_127, l_131, l_179, l_185, l_193, l_197, l_200, l_201, l_210, l_255, l_390, l_400, l_616, l_900, l_940, l_999, l_1000, l_1024, e_ltT, e_ltF, e_leT, e_leF, e_eqT, e_eqF, e_cl, e_in, e_gd, e_bd, e_ne, e_en, e_nlt, e_ltn, e_len, e_nle, e_nn, e_z0, e_z1, nI_add, pk_mul, e_sub, Nf_app, e_refl, e_reflN, reduceIte, ite_true_, ite_false_, oI_sI, oI_sL, oI_sW, oI_sA, oI_sJ, oI_sX, oL_sI, oL_sL, oL_sW, oL_sA, oL_sJ, oL_sX, oW_sI, oW_sL, oW_sW, oW_sA, oW_sJ, oW_sX, oA_sI, oA_sL, oA_sW, oA_sA, oA_sJ, oA_sX, oJ_sI, oJ_sL, oJ_sW, oJ_sA, oJ_sJ, oJ_sX, oX_sI, oX_sL, oX_sW, oX_sA, oX_sJ, oX_sX, Nat.reduceEqDiff, n10, n01, pk, pX11_next_j18, sI_sI, ih]
        · simp (disch := omega) only [l_0, l_1, l_2, l_3, l_4, l_5, l_6, l_7, l_8, l_9, l_10, l_11, l_12, l_13, l_14, l_15, l_16, l_17, l_18, l_19, l_20, l_21, l_22, l_23, l_24, l_25, l_26, l_27, l_28, l_29, l_30, l_31, l_32, l_33, l_34, l_35, l_36, l_40, l_41, l_48, l_56, l_57, l_59, l_60, l_61, l_62, l_63, l_79, l_81, l_88, l_93, l_97, l_99, l_105, l_117, l_121, l_122, l_125, l_127, l_131, l_179, l_185, l_193, l_197, l_200, l_201, l_210, l_255, l_390, l_400, l_616, l_900, l_940, l_999, l_1000, l_1024, e_ltT, e_ltF, e_leT, e_leF, e_eqT, e_eqF, e_cl, e_in, e_gd, e_bd, e_ne, e_en, e_nlt, e_ltn, e_len, e_nle, e_nn, e_z0, e_z1, nI_add, pk_mul, e_sub, Nf_app, e_refl, e_reflN, reduceIte, ite_true_, ite_false_, oI_sI, oI_sL, oI_sW, oI_sA, oI_sJ, oI_sX, oL_sI, oL_sL, oL_sW, oL_sA, oL_sJ, oL_sX, oW_sI, oW_sL, oW_sW, oW_sA, oW_sJ, oW_sX, oA_sI, oA_sL, oA_sW, oA_sA, oA_sJ, oA_sX, oJ_sI, oJ_sL, oJ_sW, oJ_sA, oJ_sJ, oJ_sX, oX_sI, oX_sL, oX_sW, oX_sA, oX_sJ, oX_sX, Nat.reduceEqDiff, n10, n01, pk, pX11_next_j18, sI_sI, ih]
      · rw [if_neg c]
        simp (disch := omega) only [l_0, l_1, l_2, l_3, l_4, l_5, l_6, l_7, l_8, l_9, l_10, l_11, l_12, l_13, l_14, l_15, l_16, l_17, l_18, l_19, l_20, l_21, l_22, l_23, l_24, l_25, l_26, l_27, l_28, l_29, l_30, l_31, l_32, l_33, l_34, l_35, l_36, l_40, l_41, l_48, l_56, l_57, l_59, l_60, l_61, l_62, l_63, l_79, l_81, l_88, l_93, l_97, l_99, l_105, l_117, l_121, l_122, l_125, l_127, l_131, l_179, l_185, l_193, l_197, l_200, l_201, l_210, l_255, l_390, l_400, l_616, l_900, l_940, l_999, l_1000, l_1024, e_ltT, e_ltF, e_leT, e_leF, e_eqT, e_eqF, e_cl, e_in, e_gd, e_bd, e_ne, e_en, e_nlt, e_ltn, e_len, e_nle, e_nn, e_z0, e_z1, nI_add, pk_mul, e_sub, Nf_app, e_refl, e_reflN, reduceIte, ite_true_, ite_false_, oI_sI, oI_sL, oI_sW, oI_sA, oI_sJ, oI_sX, oL_sI, oL_sL, oL_sW, oL_sA, oL_sJ, oL_sX, oW_sI, oW_sL, oW_sW, oW_sA, oW_sJ, oW_sX, oA_sI, oA_sL, oA_sW, oA_sA, oA_sJ, oA_sX, oJ_sI, oJ_sL, oJ_sW, oJ_sA, oJ_sJ, oJ_sX, oX_sI, oX_sL, oX_sW, oX_sA, oX_sJ, oX_sX, Nat.reduceEqDiff, n10, n01, pk]
/-- a run in the class: letters, digits, the word and the number so far -/
def RC (V S : Ob) (tb : Nat → Nat) (p j : Nat) : Prop := FC V S ∧ oI S 4 = oI V 4 ∧ oI S 5 = oI V 5 ∧ oW S 8 = oW V 8 ∧ oI S 3 = nI (p + j) ∧ (lc tb p j = j → j ≤ 7 → oL S 7 = lN (wd tb p j)) ∧ ((∀ i, i < j → dgt (tb (p + i)) = true) → j ≤ 3 → oI S 6 = nI (nb tb p j))
theorem e_wd {n c : Nat} (hn : n < 2 ^ 48) (hc : c < 256) : (lN n <<< ((nI 8).toInt64 &&& 63)) ||| (nI c).toInt64 = lN (n * 256 + c) := by
  rw [wb_shl n (by decide), nI_l (by omega), wb_or (by omega) (by omega)]
  congr 1
  have := Nat.two_pow_add_eq_or_of_lt (i := 8) (b := c) hc n
  rw [show 2 ^ 8 * n = n * 2 ^ 8 by omega] at this
  rw [← this]
theorem sml_dgt {c : Nat} (h : sml c = true) : dgt c = false := by
  have := of_decide_eq_true h
  exact decide_eq_false (by omega)
theorem c_run (hb : ∀ i, oA V 0 i = nI (tb i)) (hb2 : ∀ i, tb i < 256) (hz : oI V 1 = nI z) (hz9 : z ≤ 940) {p : Nat} : ∀ (f i j : Nat) {S : Ob}, p + j + i = z → i < f → RC V S tb p j → okS (pX8_scanRun_l14 f (nI (lc tb p j)) (nI (j - lc tb p j)) S) (fun r => r.1 = nI (lc tb p (j + rn tb i (p + j))) ∧ r.2.1 = nI (j + rn tb i (p + j) - lc tb p (j + rn tb i (p + j))) ∧ RC V r.2.2 tb p (j + rn tb i (p + j)))
  | 0, _, _, _, _, h, _ => by omega
  | f + 1, i, j, S, h1, h2, hR => by
    obtain ⟨r1, r2, r3, r4, r5, r6, r7⟩ := hR
    have hzS : oI S 1 = nI z := (r1.1 1 (by omega) (by omega) (by omega) (by omega)).trans hz
    have hbS : ∀ i, oA S 0 i = nI (tb i) := fun i => by rw [r1.2]; exact hb i
    have b := hb2 (p + j)
    have ll := lc_le tb p j
    rw [pX8_scanRun_l14]
    cases i with
    | zero =>
      simp (disch := omega) only [l_0, l_1, l_2, l_3, l_4, l_5, l_6, l_7, l_8, l_9, l_10, l_11, l_12, l_13, l_14, l_15, l_16, l_17, l_18, l_19, l_20, l_21, l_22, l_23, l_24, l_25, l_26, l_27, l_28, l_29, l_30, l_31, l_32, l_33, l_34, l_35, l_36, l_40, l_41, l_48, l_56, l_57, l_59, l_60, l_61, l_62, l_63, l_79, l_81, l_88, l_93, l_97, l_99, l_105, l_117, l_121, l_122, l_125, l_127, l_131, l_179, l_185, l_193, l_197, l_200, l_201, l_210, l_255, l_390, l_400, l_616, l_900, l_940, l_999, l_1000, l_1024, e_ltT, e_ltF, e_leT, e_leF, e_eqT, e_eqF, e_cl, e_in, e_gd, e_bd, e_ne, e_en, e_nlt, e_ltn, e_len, e_nle, e_nn, e_z0, e_z1, nI_add, pk_mul, e_sub, Nf_app, e_refl, e_reflN, reduceIte, ite_true_, ite_false_, r5, hzS]
      exact okS_some ⟨rfl, rfl, r1, r2, r3, r4, r5, r6, r7⟩
    | succ i =>
      rw [rn]
      cases cs : sml (tb (p + j)) with
      | true =>
        have hc := of_decide_eq_true cs
        have ha : aln (tb (p + j)) = true := by unfold aln; rw [cs]; rfl
        have e1 : lc tb p (j + 1) = lc tb p j + 1 := by rw [lc, cs]; rfl
        have hw := wd_lt hb2 p j
        have ih := c_run (p := p) hb hb2 hz hz9 f i (j + 1) (S := sI (sL S 7 (((oL S 7) <<< ((nI 8).toInt64 &&& 63)) ||| ((nI (tb (p + j))).toInt64))) 3 (nI (p + j + 1))) (by omega) (by omega) ⟨(r1.l 7 _).i 3 _ (by omega), r2, r3, r4, by rw [oI_sI, if_pos rfl, Nat.add_assoc], fun q1 q2 => by
            have q3 := r6 (by omega) (by omega)
            have hj : 256 ^ j ≤ 256 ^ 6 := Nat.pow_le_pow_right (by decide) (by omega)
            rw [oL_sI, oL_sL, if_pos rfl, q3, e_wd (by omega) b, wd], fun q1 q2 => by
            have := q1 j (by omega)
            rw [sml_dgt cs] at this; cases this⟩
        rw [e1, show j + 1 - (lc tb p j + 1) = j - lc tb p j by omega, show p + (j + 1) = p + j + 1 by omega, show j + 1 + rn tb i (p + j + 1) = j + (rn tb i (p + j + 1) + 1) by omega] at ih
        rw [if_pos ha]
        simp (disch := omega) only [l_0, l_1, l_2, l_3, l_4, l_5, l_6, l_7, l_8, l_9, l_10, l_11, l_12, l_13, l_14, l_15, l_16, l_17, l_18, l_19, l_20, l_21, l_22, l_23, l_24, l_25, l_26, l_27, l_28, l_29, l_30, l_31, l_32, l_33, l_34, l_35, l_36, l_40, l_41, l_48, l_56, l_57, l_59, l_60, l_61, l_62, l_63, l_79, l_81, l_88, l_93, l_97, l_99, l_105, l_117, l_121, l_122, l_125, l_127, l_131, l_179, l_185, l_193, l_197, l_200, l_201, l_210, l_255, l_390, l_400, l_616, l_900, l_940, l_999, l_1000, l_1024, e_ltT, e_ltF, e_leT, e_leF, e_eqT, e_eqF, e_cl, e_in, e_gd, e_bd, e_ne, e_en, e_nlt, e_ltn, e_len, e_nle, e_nn, e_z0, e_z1, nI_add, pk_mul, e_sub, Nf_app, e_refl, e_reflN, reduceIte, ite_true_, ite_false_, oI_sI, oI_sL, oI_sW, oI_sA, oI_sJ, oI_sX, oL_sI, oL_sL, oL_sW, oL_sA, oL_sJ, oL_sX, oW_sI, oW_sL, oW_sW, oW_sA, oW_sJ, oW_sX, oA_sI, oA_sL, oA_sW, oA_sA, oA_sJ, oA_sX, oJ_sI, oJ_sL, oJ_sW, oJ_sA, oJ_sJ, oJ_sX, oX_sI, oX_sL, oX_sW, oX_sA, oX_sJ, oX_sX, Nat.reduceEqDiff, n10, n01, r5, hzS, hbS, pX8_scanRun_j98]
        exact ih
      | false =>
        have hns := of_decide_eq_false cs
        have e1 : lc tb p (j + 1) = lc tb p j := by rw [lc, cs]; rfl
        cases cd : dgt (tb (p + j)) with
        | true =>
          have hc := of_decide_eq_true cd
          have ha : aln (tb (p + j)) = true := by unfold aln; rw [cs, cd]; rfl
          have ih := c_run (p := p) hb hb2 hz hz9 f i (j + 1) (S := sI (sI S 6 ((((oI S 6) * (nI 10)) + nI (tb (p + j))) - (nI 48))) 3 (nI (p + j + 1))) (by omega) (by omega) ⟨(r1.i 6 _ (by omega)).i 3 _ (by omega), r2, r3, r4, by rw [oI_sI, if_pos rfl, Nat.add_assoc], fun q1 q2 => by omega, fun q1 q2 => by
              have q3 := r7 (fun i hi => q1 i (by omega)) (by omega)
              rw [oI_sI, if_neg (by omega), oI_sI, if_pos rfl, q3, pk_mul, nI_add, e_sub (by omega), nb]⟩
          rw [e1, show j + 1 - lc tb p j = j - lc tb p j + 1 by omega, show p + (j + 1) = p + j + 1 by omega, show j + 1 + rn tb i (p + j + 1) = j + (rn tb i (p + j + 1) + 1) by omega] at ih
          rw [if_pos ha]
          simp (disch := omega) only [l_0, l_1, l_2, l_3, l_4, l_5, l_6, l_7, l_8, l_9, l_10, l_11, l_12, l_13, l_14, l_15, l_16, l_17, l_18, l_19, l_20, l_21, l_22, l_23, l_24, l_25, l_26, l_27, l_28, l_29, l_30, l_31, l_32, l_33, l_34, l_35, l_36, l_40, l_41, l_48, l_56, l_57, l_59, l_60, l_61, l_62, l_63, l_79, l_81, l_88, l_93, l_97, l_99, l_105, l_117, l_121, l_122, l_125, l_127, l_131, l_179, l_185, l_193, l_197, l_200, l_201, l_210, l_255, l_390, l_400, l_616, l_900, l_940, l_999, l_1000, l_1024, e_ltT, e_ltF, e_leT, e_leF, e_eqT, e_eqF, e_cl, e_in, e_gd, e_bd, e_ne, e_en, e_nlt, e_ltn, e_len, e_nle, e_nn, e_z0, e_z1, nI_add, pk_mul, e_sub, Nf_app, e_refl, e_reflN, reduceIte, ite_true_, ite_false_, oI_sI, oI_sL, oI_sW, oI_sA, oI_sJ, oI_sX, oL_sI, oL_sL, oL_sW, oL_sA, oL_sJ, oL_sX, oW_sI, oW_sL, oW_sW, oW_sA, oW_sJ, oW_sX, oA_sI, oA_sL, oA_sW, oA_sA, oA_sJ, oA_sX, oJ_sI, oJ_sL, oJ_sW, oJ_sA, oJ_sJ, oJ_sX, oX_sI, oX_sL, oX_sW, oX_sA, oX_sJ, oX_sX, Nat.reduceEqDiff, n10, n01, r5, hzS, hbS, pX8_scanRun_j67, pX8_scanRun_j98]
          exact ih
        | false =>
          have hnd := of_decide_eq_false cd
          have ha : ¬ aln (tb (p + j)) = true := by unfold aln; rw [cs, cd]; decide
          rw [if_neg ha]
          have fin : okS (some (nI (lc tb p j), nI (j - lc tb p j), S)) (fun r => r.1 = nI (lc tb p (j + 0)) ∧ r.2.1 = nI (j + 0 - lc tb p (j + 0)) ∧ RC V r.2.2 tb p (j + 0)) := okS_some ⟨rfl, rfl, r1, r2, r3, r4, r5, r6, r7⟩
          by_cases c97 : tb (p + j) < 97
          · by_cases c48 : tb (p + j) < 48
            · simp (disch := omega) only [l_0, l_1, l_2, l_3, l_4, l_5, l_6, l_7, l_8, l_9, l_10, l_11, l_12, l_13, l_14, l_15, l_16, l_17, l_18, l_19, l_20, l_21, l_22, l_23, l_24, l_25, l_26, l_27, l_28, l_29, l_30, l_31, l_32, l_33, l_34, l_35, l_36, l_40, l_41, l_48, l_56, l_57, l_59, l_60, l_61, l_62, l_63, l_79, l_81, l_88, l_93, l_97, l_99, l_105, l_117, l_121, l_122, l_125, l_127, l_131, l_179, l_185, l_193, l_197, l_200, l_201, l_210, l_255, l_390, l_400, l_616, l_900, l_940, l_999, l_1000, l_1024, e_ltT, e_ltF, e_leT, e_leF, e_eqT, e_eqF, e_cl, e_in, e_gd, e_bd, e_ne, e_en, e_nlt, e_ltn, e_len, e_nle, e_nn, e_z0, e_z1, nI_add, pk_mul, e_sub, Nf_app, e_refl, e_reflN, reduceIte, ite_true_, ite_false_, r5, hzS, hbS, pX8_scanRun_j67]
              exact fin
            · simp (disch := omega) only [l_0, l_1, l_2, l_3, l_4, l_5, l_6, l_7, l_8, l_9, l_10, l_11, l_12, l_13, l_14, l_15, l_16, l_17, l_18, l_19, l_20, l_21, l_22, l_23, l_24, l_25, l_26, l_27, l_28, l_29, l_30, l_31, l_32, l_33, l_34, l_35, l_36, l_40, l_41, l_48, l_56, l_57, l_59, l_60, l_61, l_62, l_63, l_79, l_81, l_88, l_93, l_97, l_99, l_105, l_117, l_121, l_122, l_125, l_127, l_131, l_179, l_185, l_193, l_197, l_200, l_201, l_210, l_255, l_390, l_400, l_616, l_900, l_940, l_999, l_1000, l_1024, e_ltT, e_ltF, e_leT, e_leF, e_eqT, e_eqF, e_cl, e_in, e_gd, e_bd, e_ne, e_en, e_nlt, e_ltn, e_len, e_nle, e_nn, e_z0, e_z1, nI_add, pk_mul, e_sub, Nf_app, e_refl, e_reflN, reduceIte, ite_true_, ite_false_, r5, hzS, hbS, pX8_scanRun_j67]
              exact fin
          · simp (disch := omega) only [l_0, l_1, l_2, l_3, l_4, l_5, l_6, l_7, l_8, l_9, l_10, l_11, l_12, l_13, l_14, l_15, l_16, l_17, l_18, l_19, l_20, l_21, l_22, l_23, l_24, l_25, l_26, l_27, l_28, l_29, l_30, l_31, l_32, l_33, l_34, l_35, l_36, l_40, l_41, l_48, l_56, l_57, l_59, l_60, l_61, l_62, l_63, l_79, l_81, l_88, l_93, l_97, l_99, l_105, l_117, l_121, l_122, l_125, l_127, l_131, l_179, l_185, l_193, l_197, l_200, l_201, l_210, l_255, l_390, l_400, l_616, l_900, l_940, l_999, l_1000, l_1024, e_ltT, e_ltF, e_leT, e_leF, e_eqT, e_eqF, e_cl, e_in, e_gd, e_bd, e_ne, e_en, e_nlt, e_ltn, e_len, e_nle, e_nn, e_z0, e_z1, nI_add, pk_mul, e_sub, Nf_app, e_refl, e_reflN, reduceIte, ite_true_, ite_false_, r5, hzS, hbS, pX8_scanRun_j67]
            exact fin
end
