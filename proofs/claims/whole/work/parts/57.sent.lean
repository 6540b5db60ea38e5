/-! the reading of a sentence: codes -/
def wmp (c : Nat) : Nat := if c = 0 then 14 else if c = 1 then 15 else if c = 2 then 16 else if c = 3 then 17 else if c = 4 then 18 else if c = 5 then 2 else if c = 6 then 19 else if c = 7 then 20 else if c = 8 then 21 else if c = 20 then 13 else if c = 21 then 12 else 11
theorem wmp_lt (c : Nat) : wmp c < 22 := by unfold wmp; (repeat' split) <;> omega
abbrev Cd : Type := Nat × Nat × Nat
/-- the class's codes, the reference's codes -/
def CS (S : Ob) (f : Nat → Cd) (s : Nat) : Prop := oI S 3 = nI s ∧ ∀ i, i < s → oX S 0 i = some (wmp (f i).1) ∧ oA S 1 i = nI (f i).2.1 ∧ oA S 2 i = nI (f i).2.2
def CM (M : Ob) (f : Nat → Cd) (r : Nat) : Prop := oI M 40 = nI r ∧ ∀ i, i < r → oA M 8 (3 * i) = nI (f i).1 ∧ oA M 8 (3 * i + 1) = nI (f i).2.1 ∧ oA M 8 (3 * i + 2) = nI (f i).2.2
def VF (g : Nat → Nat) (c : Cd) : Prop := (c.1 ≤ 8 ∨ c.1 = 20 ∨ c.1 = 21 ∨ c.1 = 22) ∧ c.2.1 < 1000 ∧ c.2.2 < 1000 ∧ (c.1 = 4 → c.2.2 < g 1) ∧ (5 ≤ c.1 → c.1 ≤ 8 → c.2.1 = 60 ∨ c.2.1 = 61 ∨ c.2.1 = 62)
/-- all words of a unit are known -/
def AW (S : Ob) : Prop := ∀ j, j < 40 → wOk (oX S 0 j) = true
theorem CS.cong {S : Ob} {f f' : Nat → Cd} {s : Nat} (H : CS S f s) (e : ∀ i, i < s → f' i = f i) : CS S f' s := ⟨H.1, fun i hi => by rw [e i hi]; exact H.2 i hi⟩
theorem CM.cong {S : Ob} {f f' : Nat → Cd} {s : Nat} (H : CM S f s) (e : ∀ i, i < s → f' i = f i) : CM S f' s := ⟨H.1, fun i hi => by rw [e i hi]; exact H.2 i hi⟩
section
variable {S M : Ob} {f : Nat → Cd} {s : Nat}
/-- a step is added, whatever stands there -/
theorem c_step (hA : AW S) {n : Nat} (h3 : oI S 3 = nI n) (hn : n ≤ 40) {w : Nat} (hw : w < 22) (u v : Int32) : okS (pX5_addStep S (some w) u v) (fun S' => AW S' ∧ oI S' 4 = oI S 4 ∧ (∃ n', n' ≤ 40 ∧ oI S' 3 = nI n') ∧ (n < 40 → oI S' 3 = nI (n + 1) ∧ oX S' 0 = va_up (oX S 0) n (some w) ∧ oA S' 1 = va_up (oA S 1) n u ∧ oA S' 2 = va_up (oA S 2) n v)) := by
  unfold pX5_addStep
  by_cases c : n = 40
  · simp (disch := omega) only [l_0, l_1, l_2, l_3, l_4, l_5, l_6, l_7, l_8, l_9, l_10, l_11, l_12, l_13, l_14, l_15, l_16, l_17, l_18, l_19, l_20, l_21, l_22, l_23, l_24, l_25, l_26, l_27, l_28, l_29, l_30, l_31, l_32, l_33, l_34, l_35, l_36, l_40, l_41, l_48, l_56, l_57, l_59, l_60, l_61, l_62, l_63, l_79, l_81, l_88, l_93, l_97, l_99, l_105, l_117, l_121, l_122, l_125, l_127, l_131, l_179, l_185, l_193, l_197, l_200, l_201, l_210, l_255, l_390, l_400, l_616, l_900, l_940, l_999, l_1000, l_1024, e_ltT, e_ltF, e_leT, e_leF, e_eqT, e_eqF, e_cl, e_in, e_gd, e_bd, e_ne, e_en, e_nlt, e_ltn, e_len, e_nle, e_nn, e_z0, e_z1, nI_add, pk_mul, e_sub, Nf_app, e_refl, e_reflN, reduceIte, ite_true_, ite_false_, h3]
    exact okS_some ⟨hA, rfl, ⟨n, hn, h3⟩, fun h => by omega⟩
  · have ok : wOk (some w) = true := decide_eq_true hw
    simp (disch := omega) only [l_40, l_1, h3, e_leF, reduceIte, ok, e_gd, e_cl, e_in, oI_sX, oI_sA, oI_sI, oA_sX, oA_sA, oX_sA, oX_sX, Nat.reduceEqDiff, n10, n01, nI_add]
    refine okS_some ⟨fun j hj => ?_, ?_, ⟨n + 1, by omega, ?_⟩, fun _ => ⟨?_, ?_, ?_, ?_⟩⟩
    · simp only [oX_sI, oX_sA, oX_sX, reduceIte]
      by_cases e : j = n
      · rw [uv_eq e]; exact ok
      · rw [uv_ne e]; exact hA j hj
    · simp (disch := omega) only [l_0, l_1, l_2, l_3, l_4, l_5, l_6, l_7, l_8, l_9, l_10, l_11, l_12, l_13, l_14, l_15, l_16, l_17, l_18, l_19, l_20, l_21, l_22, l_23, l_24, l_25, l_26, l_27, l_28, l_29, l_30, l_31, l_32, l_33, l_34, l_35, l_36, l_40, l_41, l_48, l_56, l_57, l_59, l_60, l_61, l_62, l_63, l_79, l_81, l_88, l_93, l_97, l_99, l_105, l_117, l_121, l_122, l_125, l_127, l_131, l_179, l_185, l_193, l_197, l_200, l_201, l_210, l_255, l_390, l_400, l_616, l_900, l_940, l_999, l_1000, l_1024, e_ltT, e_ltF, e_leT, e_leF, e_eqT, e_eqF, e_cl, e_in, e_gd, e_bd, e_ne, e_en, e_nlt, e_ltn, e_len, e_nle, e_nn, e_z0, e_z1, nI_add, pk_mul, e_sub, Nf_app, e_refl, e_reflN, reduceIte, ite_true_, ite_false_, oI_sI, oI_sL, oI_sW, oI_sA, oI_sJ, oI_sX, oL_sI, oL_sL, oL_sW, oL_sA, oL_sJ, oL_sX, oW_sI, oW_sL, oW_sW, oW_sA, oW_sJ, oW_sX, oA_sI, oA_sL, oA_sW, oA_sA, oA_sJ, oA_sX, oJ_sI, oJ_sL, oJ_sW, oJ_sA, oJ_sJ, oJ_sX, oX_sI, oX_sL, oX_sW, oX_sA, oX_sJ, oX_sX, Nat.reduceEqDiff, n10, n01, h3]
    · simp (disch := omega) only [l_0, l_1, l_2, l_3, l_4, l_5, l_6, l_7, l_8, l_9, l_10, l_11, l_12, l_13, l_14, l_15, l_16, l_17, l_18, l_19, l_20, l_21, l_22, l_23, l_24, l_25, l_26, l_27, l_28, l_29, l_30, l_31, l_32, l_33, l_34, l_35, l_36, l_40, l_41, l_48, l_56, l_57, l_59, l_60, l_61, l_62, l_63, l_79, l_81, l_88, l_93, l_97, l_99, l_105, l_117, l_121, l_122, l_125, l_127, l_131, l_179, l_185, l_193, l_197, l_200, l_201, l_210, l_255, l_390, l_400, l_616, l_900, l_940, l_999, l_1000, l_1024, e_ltT, e_ltF, e_leT, e_leF, e_eqT, e_eqF, e_cl, e_in, e_gd, e_bd, e_ne, e_en, e_nlt, e_ltn, e_len, e_nle, e_nn, e_z0, e_z1, nI_add, pk_mul, e_sub, Nf_app, e_refl, e_reflN, reduceIte, ite_true_, ite_false_, oI_sI, oI_sL, oI_sW, oI_sA, oI_sJ, oI_sX, oL_sI, oL_sL, oL_sW, oL_sA, oL_sJ, oL_sX, oW_sI, oW_sL, oW_sW, oW_sA, oW_sJ, oW_sX, oA_sI, oA_sL, oA_sW, oA_sA, oA_sJ, oA_sX, oJ_sI, oJ_sL, oJ_sW, oJ_sA, oJ_sJ, oJ_sX, oX_sI, oX_sL, oX_sW, oX_sA, oX_sJ, oX_sX, Nat.reduceEqDiff, n10, n01, h3]
    · simp (disch := omega) only [l_0, l_1, l_2, l_3, l_4, l_5, l_6, l_7, l_8, l_9, l_10, l_11, l_12, l_13, l_14, l_15, l_16, l_17, l_18, l_19, l_20, l_21, l_22, l_23, l_24, l_25, l_26, l_27, l_28, l_29, l_30, l_31, l_32, l_33, l_34, l_35, l_36, l_40, l_41, l_48, l_56, l_57, l_59, l_60, l_61, l_62, l_63, l_79, l_81, l_88, l_93, l_97, l_99, l_105, l_117, l_121, l_122, l_125, l_127, l_131, l_179, l_185, l_193, l_197, l_200, l_201, l_210, l_255, l_390, l_400, l_616, l_900, l_940, l_999, l_1000, l_1024, e_ltT, e_ltF, e_leT, e_leF, e_eqT, e_eqF, e_cl, e_in, e_gd, e_bd, e_ne, e_en, e_nlt, e_ltn, e_len, e_nle, e_nn, e_z0, e_z1, nI_add, pk_mul, e_sub, Nf_app, e_refl, e_reflN, reduceIte, ite_true_, ite_false_, oI_sI, oI_sL, oI_sW, oI_sA, oI_sJ, oI_sX, oL_sI, oL_sL, oL_sW, oL_sA, oL_sJ, oL_sX, oW_sI, oW_sL, oW_sW, oW_sA, oW_sJ, oW_sX, oA_sI, oA_sL, oA_sW, oA_sA, oA_sJ, oA_sX, oJ_sI, oJ_sL, oJ_sW, oJ_sA, oJ_sJ, oJ_sX, oX_sI, oX_sL, oX_sW, oX_sA, oX_sJ, oX_sX, Nat.reduceEqDiff, n10, n01, h3]
    · simp only [oX_sI, oX_sA, oX_sX, reduceIte]
    · simp only [oA_sI, oA_sA, oA_sX, Nat.reduceEqDiff, n10, n01, reduceIte]
    · simp only [oA_sI, oA_sA, oA_sX, Nat.reduceEqDiff, n10, n01, reduceIte]
theorem c_emit (hA : AW S) (H : CS S f s) (hs : s < 40) (c u v : Nat) : okS (pX5_addStep S (some (wmp c)) (nI u) (nI v)) (fun S' => AW S' ∧ oI S' 4 = oI S 4 ∧ CS S' (va_up f s (c, u, v)) (s + 1)) := by
  obtain ⟨S', x1, x2, x3, _, x4⟩ := c_step hA H.1 (by omega) (wmp_lt c) (nI u) (nI v)
  obtain ⟨y1, y2, y3, y4⟩ := x4 hs
  refine ⟨S', x1, x2, x3, y1, fun i hi => ?_⟩
  rw [y2, y3, y4]
  by_cases e : i = s
  · rw [uv_eq e, uv_eq e, uv_eq e, uv_eq e]; exact ⟨rfl, rfl, rfl⟩
  · rw [uv_ne e, uv_ne e, uv_ne e, uv_ne e]; exact H.2 i (by omega)
def cdM (M : Ob) (s c u v : Nat) : Ob := sI (sA M 8 (va_up (va_up (va_up (oA M 8) (3 * s) (nI c)) (3 * s + 1) (nI u)) (3 * s + 2) (nI v))) 40 (nI (s + 1))
theorem r_emit (H : CM M f s) (hs : s < 40) (c u v : Nat) : pX11_code M (nI c) (nI u) (nI v) = some (cdM M s c u v) ∧ CM (cdM M s c u v) (va_up f s (c, u, v)) (s + 1) := by
  refine ⟨?_, ?_, fun i hi => ?_⟩
  · unfold pX11_code cdM
    simp (disch := omega) only [l_0, l_1, l_2, l_3, l_4, l_5, l_6, l_7, l_8, l_9, l_10, l_11, l_12, l_13, l_14, l_15, l_16, l_17, l_18, l_19, l_20, l_21, l_22, l_23, l_24, l_25, l_26, l_27, l_28, l_29, l_30, l_31, l_32, l_33, l_34, l_35, l_36, l_40, l_41, l_48, l_56, l_57, l_59, l_60, l_61, l_62, l_63, l_79, l_81, l_88, l_93, l_97, l_99, l_105, l_117, l_121, l_122, l_125, l_127, l_131, l_179, l_185, l_193, l_197, l_200, l_201, l_210, l_255, l_390, l_400, l_616, l_900, l_940, l_999, l_1000, l_1024, e_ltT, e_ltF, e_leT, e_leF, e_eqT, e_eqF, e_cl, e_in, e_gd, e_bd, e_ne, e_en, e_nlt, e_ltn, e_len, e_nle, e_nn, e_z0, e_z1, nI_add, pk_mul, e_sub, Nf_app, e_refl, e_reflN, reduceIte, ite_true_, ite_false_, oI_sI, oI_sL, oI_sW, oI_sA, oI_sJ, oI_sX, oL_sI, oL_sL, oL_sW, oL_sA, oL_sJ, oL_sX, oW_sI, oW_sL, oW_sW, oW_sA, oW_sJ, oW_sX, oA_sI, oA_sL, oA_sW, oA_sA, oA_sJ, oA_sX, oJ_sI, oJ_sL, oJ_sW, oJ_sA, oJ_sJ, oJ_sX, oX_sI, oX_sL, oX_sW, oX_sA, oX_sJ, oX_sX, Nat.reduceEqDiff, n10, n01, H.1, sA_sA]
  · unfold cdM; simp (disch := omega) only [l_0, l_1, l_2, l_3, l_4, l_5, l_6, l_7, l_8, l_9, l_10, l_11, l_12, l_13, l_14, l_15, l_16, l_17, l_18, l_19, l_20, l_21, l_22, l_23, l_24, l_25, l_26, l_27, l_28, l_29, l_30, l_31, l_32, l_33, l_34, l_35, l_36, l_40, l_41, l_48, l_56, l_57, l_59, l_60, l_61, l_62, l_63, l_79, l_81, l_88, l_93, l_97, l_99, l_105, l_117, l_121, l_122, l_125, l_127, l_131, l_179, l_185, l_193, l_197, l_200, l_201, l_210, l_255, l_390, l_400, l_616, l_900, l_940, l_999, l_1000, l_1024, e_ltT, e_ltF, e_leT, e_leF, e_eqT, e_eqF, e_cl, e_in, e_gd, e_bd, e_ne, e_en, e_nlt, e_ltn, e_len, e_nle, e_nn, e_z0, e_z1, nI_add, pk_mul, e_sub, Nf_app, e_refl, e_reflN, reduceIte, ite_true_, ite_false_, oI_sI, oI_sL, oI_sW, oI_sA, oI_sJ, oI_sX, oL_sI, oL_sL, oL_sW, oL_sA, oL_sJ, oL_sX, oW_sI, oW_sL, oW_sW, oW_sA, oW_sJ, oW_sX, oA_sI, oA_sL, oA_sW, oA_sA, oA_sJ, oA_sX, oJ_sI, oJ_sL, oJ_sW, oJ_sA, oJ_sJ, oJ_sX, oX_sI, oX_sL, oX_sW, oX_sA, oX_sJ, oX_sX, Nat.reduceEqDiff, n10, n01, H.1]
  · have e8 : oA (cdM M s c u v) 8 = va_up (va_up (va_up (oA M 8) (3 * s) (nI c)) (3 * s + 1) (nI u)) (3 * s + 2) (nI v) := by unfold cdM; rw [oA_sI, oA_self]
    rw [e8]
    by_cases e : i = s
    · subst e
      rw [uv_eq (f := f) rfl]
      refine ⟨?_, ?_, uv_eq rfl⟩
      · rw [uv_ne (by omega), uv_ne (by omega), uv_eq rfl]
      · rw [uv_ne (by omega), uv_eq rfl]
    · rw [uv_ne (f := f) e, uv_ne (by omega), uv_ne (by omega), uv_ne (by omega), uv_ne (by omega), uv_ne (by omega), uv_ne (by omega), uv_ne (by omega), uv_ne (by omega), uv_ne (by omega)]
      exact H.2 i (by omega)
end
/-- what the reading of a sentence leaves as it was -/
def SF (M M' : Ob) : Prop := (∀ k, k ≠ 4 → k ≠ 11 → k ≠ 12 → k ≠ 13 → k ≠ 14 → k ≠ 15 → k ≠ 16 → k ≠ 18 → (k < 40 ∨ 44 < k) → oI M' k = oI M k) ∧ (∀ k, k ≠ 8 → k ≠ 39 → oA M' k = oA M k) ∧ (∀ k, oJ M' k = oJ M k)
theorem SF.trans {M M1 M2 : Ob} (a : SF M M1) (b : SF M1 M2) : SF M M2 := ⟨fun k h1 h2 h3 h4 h5 h6 h7 h8 h9 => (b.1 k h1 h2 h3 h4 h5 h6 h7 h8 h9).trans (a.1 k h1 h2 h3 h4 h5 h6 h7 h8 h9), fun k hk hk2 => (b.2.1 k hk hk2).trans (a.2.1 k hk hk2), fun k => (b.2.2 k).trans (a.2.2 k)⟩
theorem GF.sf {M M' : Ob} (a : GF M M') : SF M M' := ⟨fun k h1 h2 h3 h4 h5 h6 h7 h8 _ => a.1 k h1 h2 h3 h4 h5 h6 h7 h8, fun k _ _ => a.2.1 k, a.2.2⟩
theorem SF.refl (M : Ob) : SF M M := (GF.refl M).sf
theorem SF.i {M M' : Ob} (a : SF M M') (k : Nat) (v : Int32) (hk : 40 ≤ k ∧ k ≤ 44) : SF M (sI M' k v) := ⟨fun j h1 h2 h3 h4 h5 h6 h7 h8 h9 => by rw [oI_sI, if_neg (by omega)]; exact a.1 j h1 h2 h3 h4 h5 h6 h7 h8 h9, a.2.1, a.2.2⟩
theorem SF.a {M M' : Ob} (a : SF M M') (k : Nat) (f : Nat → Int32) (hk : k = 8 ∨ k = 39) : SF M (sA M' k f) := ⟨a.1, fun j h1 h2 => by rw [oA_sA, if_neg (by omega)]; exact a.2.1 j h1 h2, a.2.2⟩
theorem SF.cd {M M' : Ob} (a : SF M M') (s c u v : Nat) : SF M (cdM M' s c u v) := (a.a 8 _ (by omega)).i 40 _ (by omega)
theorem PS.cd {V M : Ob} {tb : Nat → Nat} {z lim : Nat} (h : PS V M tb z lim) (s c u v : Nat) : PS V (cdM M s c u v) tb z lim := (h.setA 8 _ (by omega)).set 40 _ (by omega)
/-! what codes come to -/
def ev1 (lf : Nat → Bool) (f : Nat → Cd) (i : Nat) (st : List Bool) : Option (List Bool) :=
  if (f i).1 = 20 then (match st with | b :: r => some ((!b) :: r) | _ => none)
  else if (f i).1 = 21 then (match st with | b :: c :: r => some ((c && b) :: r) | _ => none)
  else if (f i).1 = 22 then (match st with | b :: c :: r => some ((c || b) :: r) | _ => none)
  else some (lf i :: st)
def evl (lf : Nat → Bool) (f : Nat → Cd) : Nat → Nat → List Bool → Option (List Bool)
  | 0, _, st => some st
  | n + 1, i, st => (ev1 lf f i st).bind (evl lf f n (i + 1))
theorem evl_add (lf : Nat → Bool) (f : Nat → Cd) : ∀ (n m i : Nat) (st : List Bool), evl lf f (n + m) i st = (evl lf f n i st).bind (evl lf f m (i + n))
  | 0, m, i, st => by rw [Nat.zero_add]; rfl
  | n + 1, m, i, st => by
    rw [show n + 1 + m = n + m + 1 by omega, evl, evl]
    cases h : ev1 lf f i st with
    | none => rfl
    | some st' =>
      show evl lf f (n + m) (i + 1) st' = (evl lf f n (i + 1) st').bind (evl lf f m (i + (n + 1)))
      rw [evl_add lf f n m (i + 1) st', show i + 1 + n = i + (n + 1) by omega]
theorem evl_cong (lf : Nat → Bool) {f f' : Nat → Cd} : ∀ (n i : Nat) (st : List Bool), (∀ j, i ≤ j → j < i + n → f' j = f j) → evl lf f' n i st = evl lf f n i st
  | 0, _, _, _ => rfl
  | n + 1, i, st, H => by
    have e : ev1 lf f' i st = ev1 lf f i st := by unfold ev1; rw [H i (by omega) (by omega)]
    rw [evl, evl, e]
    cases ev1 lf f i st with
    | none => rfl
    | some st' => exact evl_cong lf n (i + 1) st' (fun j h1 h2 => H j (by omega) (by omega))
/-- codes from s to s' bring one truth more -/
def EV (f : Nat → Cd) (s s' : Nat) : Prop := s ≤ s' ∧ ∀ lf st, ∃ b, evl lf f (s' - s) s st = some (b :: st)
def lcn (f : Nat → Cd) : Nat → Nat
  | 0 => 0
  | i + 1 => lcn f i + (if (f i).1 ≤ 8 then 1 else 0)
theorem EV.cong {f f' : Nat → Cd} {s s' : Nat} (H : EV f s s') (e : ∀ j, s ≤ j → j < s' → f' j = f j) : EV f' s s' := ⟨H.1, fun lf st => by
  obtain ⟨b, h⟩ := H.2 lf st
  exact ⟨b, by rw [evl_cong lf _ _ _ (fun j h1 h2 => e j h1 (by have := H.1; omega))]; exact h⟩⟩
theorem EV.leaf {f : Nat → Cd} {s c u v : Nat} (hc : c ≤ 8) : EV (va_up f s (c, u, v)) s (s + 1) := ⟨by omega, fun lf st => ⟨lf s, by
  rw [Nat.add_sub_cancel_left, evl]
  have : ev1 lf (va_up f s (c, u, v)) s st = some (lf s :: st) := by
    unfold ev1
    rw [uv_eq rfl, if_neg (by show ¬ c = 20; omega), if_neg (by show ¬ c = 21; omega), if_neg (by show ¬ c = 22; omega)]
  rw [this]; rfl⟩⟩
theorem EV.not {f : Nat → Cd} {s s' : Nat} (H : EV f s s') : EV (va_up f s' (20, 0, 0)) s (s' + 1) := ⟨by have := H.1; omega, fun lf st => by
  obtain ⟨b, h⟩ := (H.cong (f' := va_up f s' (20, 0, 0)) (fun j h1 h2 => uv_ne (by omega))).2 lf st
  have hs := H.1
  refine ⟨!b, ?_⟩
  rw [show s' + 1 - s = (s' - s) + 1 by omega, evl_add, h]
  show evl lf _ 1 (s + (s' - s)) (b :: st) = _
  rw [show s + (s' - s) = s' by omega, evl]
  have : ev1 lf (va_up f s' (20, 0, 0)) s' (b :: st) = some ((!b) :: st) := by
    unfold ev1
    rw [uv_eq rfl, if_pos rfl]
  rw [this]; rfl⟩
theorem EV.two {f : Nat → Cd} {s s1 s2 c : Nat} (hc : c = 21 ∨ c = 22) (H1 : EV f s s1) (H2 : EV f s1 s2) : EV (va_up f s2 (c, 0, 0)) s (s2 + 1) := ⟨by have := H1.1; have := H2.1; omega, fun lf st => by
  have a1 := H1.1
  have a2 := H2.1
  obtain ⟨b, h⟩ := (H1.cong (f' := va_up f s2 (c, 0, 0)) (fun j h1 h2 => uv_ne (by omega))).2 lf st
  obtain ⟨b', h'⟩ := (H2.cong (f' := va_up f s2 (c, 0, 0)) (fun j h1 h2 => uv_ne (by omega))).2 lf (b :: st)
  rw [show s2 + 1 - s = (s1 - s) + ((s2 - s1) + 1) by omega, evl_add, h]
  show ∃ x, evl lf _ ((s2 - s1) + 1) (s + (s1 - s)) (b :: st) = some (x :: st)
  rw [show s + (s1 - s) = s1 by omega, evl_add, h']
  show ∃ x, evl lf _ 1 (s1 + (s2 - s1)) (b' :: b :: st) = some (x :: st)
  rw [show s1 + (s2 - s1) = s2 by omega, evl]
  rcases hc with rfl | rfl
  · have : ev1 lf (va_up f s2 (21, 0, 0)) s2 (b' :: b :: st) = some ((b && b') :: st) := by
      unfold ev1
      rw [uv_eq rfl, if_neg (by show ¬ 21 = 20; omega), if_pos rfl]
    exact ⟨b && b', by rw [this]; rfl⟩
  · have : ev1 lf (va_up f s2 (22, 0, 0)) s2 (b' :: b :: st) = some ((b || b') :: st) := by
      unfold ev1
      rw [uv_eq rfl, if_neg (by show ¬ 22 = 20; omega), if_neg (by show ¬ 22 = 21; omega), if_pos rfl]
    exact ⟨b || b', by rw [this]; rfl⟩⟩
