/-! what a sentence says of a person: the class -/
theorem ev_20 {lf : Nat → Bool} {f : Nat → Cd} {i : Nat} (c : (f i).1 = 20) (b : Bool) (r : List Bool) : ev1 lf f i (b :: r) = some ((!b) :: r) := by unfold ev1; rw [if_pos c]
theorem ev_20n {lf : Nat → Bool} {f : Nat → Cd} {i : Nat} (c : (f i).1 = 20) : ev1 lf f i [] = none := by unfold ev1; rw [if_pos c]
theorem ev_21 {lf : Nat → Bool} {f : Nat → Cd} {i : Nat} (c : (f i).1 = 21) (b d : Bool) (r : List Bool) : ev1 lf f i (b :: d :: r) = some ((d && b) :: r) := by unfold ev1; rw [if_neg (by omega), if_pos c]
theorem ev_21n {lf : Nat → Bool} {f : Nat → Cd} {i : Nat} (c : (f i).1 = 21) : ev1 lf f i [] = none := by unfold ev1; rw [if_neg (by omega), if_pos c]
theorem ev_21m {lf : Nat → Bool} {f : Nat → Cd} {i : Nat} (c : (f i).1 = 21) (b : Bool) : ev1 lf f i [b] = none := by unfold ev1; rw [if_neg (by omega), if_pos c]
theorem ev_22 {lf : Nat → Bool} {f : Nat → Cd} {i : Nat} (c : (f i).1 = 22) (b d : Bool) (r : List Bool) : ev1 lf f i (b :: d :: r) = some ((d || b) :: r) := by unfold ev1; rw [if_neg (by omega), if_neg (by omega), if_pos c]
theorem ev_22n {lf : Nat → Bool} {f : Nat → Cd} {i : Nat} (c : (f i).1 = 22) : ev1 lf f i [] = none := by unfold ev1; rw [if_neg (by omega), if_neg (by omega), if_pos c]
theorem ev_22m {lf : Nat → Bool} {f : Nat → Cd} {i : Nat} (c : (f i).1 = 22) (b : Bool) : ev1 lf f i [b] = none := by unfold ev1; rw [if_neg (by omega), if_neg (by omega), if_pos c]
section
variable {N q s : Nat} {g : Nat → Nat} {V V2 S : Ob} {f : Nat → Cd}
theorem c_true_l (hQ : WQ g) (hW : WS N g) (hR : QR V2 g) (hS : SR V g) (hq : q < g 1) (hC : CS S f s) (hs : s ≤ 40) (hv : ∀ i, i < s → VF g (f i)) (st' : List Bool) : ∀ (n k i : Nat) (st : List Bool), i + k = s → k < n → st.length + lcn f s ≤ 20 + lcn f i → evl (fun j => ltr g q (f j)) f k i st = some st' → pX5_isTrueOf_l6 S V2 V (nI q) n (nI (pl st)) (nI i) = some (nI (pl st'))
  | 0, k, i, st, _, h, _, _ => by omega
  | n + 1, 0, i, st, h1, h2, h3, h4 => by
    have e : st = st' := Option.some.inj h4
    subst e
    rw [pX5_isTrueOf_l6]
    simp (disch := omega) only [l_0, l_1, l_2, l_3, l_4, l_5, l_6, l_7, l_8, l_9, l_10, l_11, l_12, l_13, l_14, l_15, l_16, l_17, l_18, l_19, l_20, l_21, l_22, l_23, l_24, l_25, l_26, l_27, l_28, l_29, l_30, l_31, l_32, l_33, l_34, l_35, l_36, l_40, l_41, l_48, l_56, l_57, l_59, l_60, l_61, l_62, l_63, l_79, l_81, l_88, l_93, l_97, l_99, l_105, l_117, l_121, l_122, l_125, l_127, l_131, l_179, l_185, l_193, l_197, l_200, l_201, l_210, l_255, l_390, l_400, l_616, l_900, l_940, l_999, l_1000, l_1024, e_ltT, e_ltF, e_leT, e_leF, e_eqT, e_eqF, e_cl, e_in, e_gd, e_bd, e_ne, e_en, e_nlt, e_ltn, e_len, e_nle, e_nn, e_z0, e_z1, nI_add, pk_mul, e_sub, Nf_app, e_refl, e_reflN, reduceIte, ite_true_, ite_false_, hC.1]
  | n + 1, k + 1, i, st, h1, h2, h3, h4 => by
    have hi : i < s := by omega
    obtain ⟨w0, w1, w2⟩ := hC.2 i hi
    have vf := hv i hi
    have mono : ∀ a b, lcn f a ≤ lcn f (a + b) := fun a b => by
      induction b with
      | zero => exact Nat.le_refl _
      | succ b ih => rw [← Nat.add_assoc, lcn]; omega
    have m1 := mono (i + 1) k
    rw [show i + 1 + k = s by omega] at m1
    have l1 : lcn f (i + 1) = lcn f i + (if (f i).1 ≤ 8 then 1 else 0) := rfl
    have ih := c_true_l hQ hW hR hS hq hC hs hv st' n k (i + 1)
    rw [evl] at h4
    rw [pX5_isTrueOf_l6]
    have pre : ¬ oI S 3 ≤ nI i := by rw [hC.1]; exact nI_ge hi (by omega)
    rw [if_neg pre, e_in (show i < 40 by omega) (by omega), e_gd, e_cl (by omega), w0, wp_ok, e_gd]
    by_cases c20 : (f i).1 = 20
    · rw [c20] at l1 ⊢
      rw [if_neg (by omega)] at l1
      cases st with
      | nil => rw [ev_20n c20] at h4; cases h4
      | cons b r =>
        rw [ev_20 c20] at h4
        have h3' : r.length + 1 + lcn f s ≤ 20 + lcn f i := h3
        have p2 := pl_20 (st := r) (by omega)
        rw [if_pos (show (some (wmp 20) : Option Nat) = some 13 from rfl), l_1, show pl (b :: r) = 2 * pl r + b01 b from rfl, px_not, nI_add]
        exact ih ((!b) :: r) (by omega) (by omega) (by show r.length + 1 + lcn f s ≤ _; omega) h4
    · by_cases c21 : (f i).1 = 21
      · rw [c21] at l1 ⊢
        rw [if_neg (by omega)] at l1
        cases st with
        | nil => rw [ev_21n c21] at h4; cases h4
        | cons b r0 =>
          cases r0 with
          | nil => rw [ev_21m c21] at h4; cases h4
          | cons c r =>
            rw [ev_21 c21] at h4
            have h3' : r.length + 1 + 1 + lcn f s ≤ 20 + lcn f i := h3
            have p2 := pl_20 (st := r) (by omega)
            have b1 := b01_le b
            have b2 := b01_le c
            rw [if_neg (show ¬ (some (wmp 21) : Option Nat) = some 13 by decide), e_gd, if_pos (show (some (wmp 21) : Option Nat) = some 12 from rfl), l_1, show (31 : Int32) = nI 31 from rfl, show pl (b :: c :: r) = 2 * (2 * pl r + b01 c) + b01 b from rfl, px_shr _ _ (by omega), px_low _ _ (by omega), px_and _ _ _ (by omega), nI_add]
            exact ih ((c && b) :: r) (by omega) (by omega) (by show r.length + 1 + lcn f s ≤ _; omega) h4
      · by_cases c22 : (f i).1 = 22
        · rw [c22] at l1 ⊢
          rw [if_neg (by omega)] at l1
          cases st with
          | nil => rw [ev_22n c22] at h4; cases h4
          | cons b r0 =>
            cases r0 with
            | nil => rw [ev_22m c22] at h4; cases h4
            | cons c r =>
              rw [ev_22 c22] at h4
              have h3' : r.length + 1 + 1 + lcn f s ≤ 20 + lcn f i := h3
              have p2 := pl_20 (st := r) (by omega)
              have b1 := b01_le b
              have b2 := b01_le c
              rw [if_neg (show ¬ (some (wmp 22) : Option Nat) = some 13 by decide), e_gd, if_neg (show ¬ (some (wmp 22) : Option Nat) = some 12 by decide), e_gd, if_pos (show (some (wmp 22) : Option Nat) = some 11 from rfl), l_1, show (31 : Int32) = nI 31 from rfl, show pl (b :: c :: r) = 2 * (2 * pl r + b01 c) + b01 b from rfl, px_shr _ _ (by omega), px_low _ _ (by omega), px_or, nI_add]
              exact ih ((c || b) :: r) (by omega) (by omega) (by show r.length + 1 + lcn f s ≤ _; omega) h4
        · have c8 : (f i).1 ≤ 8 := by have := vf.1; omega
          rw [if_pos c8] at l1
          have e1 : ev1 (fun j => ltr g q (f j)) f i st = some (ltr g q (f i) :: st) := by unfold ev1; rw [if_neg c20, if_neg c21, if_neg c22]
          rw [e1] at h4
          have p2 := pl_20 (st := st) (by omega)
          have n13 : ¬ (some (wmp (f i).1) : Option Nat) = some 13 := fun x => wmp_13 c8 (Option.some.inj x)
          have n12 : ¬ (some (wmp (f i).1) : Option Nat) = some 12 := by
            rcases (by omega : (f i).1 = 0 ∨ (f i).1 = 1 ∨ (f i).1 = 2 ∨ (f i).1 = 3 ∨ (f i).1 = 4 ∨ (f i).1 = 5 ∨ (f i).1 = 6 ∨ (f i).1 = 7 ∨ (f i).1 = 8) with e | e | e | e | e | e | e | e | e <;> rw [e] <;> decide
          have n11 : ¬ (some (wmp (f i).1) : Option Nat) = some 11 := by
            rcases (by omega : (f i).1 = 0 ∨ (f i).1 = 1 ∨ (f i).1 = 2 ∨ (f i).1 = 3 ∨ (f i).1 = 4 ∨ (f i).1 = 5 ∨ (f i).1 = 6 ∨ (f i).1 = 7 ∨ (f i).1 = 8) with e | e | e | e | e | e | e | e | e <;> rw [e] <;> decide
          have lf := c_leafT (c := (f i).1) (u := (f i).2.1) (v := (f i).2.2) hQ hW hR hS hq vf c8 (by omega) w0 w1 w2
          have ih' := ih (ltr g q (f i) :: st) (by omega) (by omega) (by show st.length + 1 + lcn f s ≤ _; omega) h4
          rw [if_neg n13, e_gd, if_neg n12, e_gd, if_neg n11, lf, e_bd, l_1, l_0, show (31 : Int32) = nI 31 from rfl]
          have lt : ltr g q ((f i).1, (f i).2.1, (f i).2.2) = ltr g q (f i) := rfl
          rw [lt]
          rw [show pl (ltr g q (f i) :: st) = 2 * pl st + b01 (ltr g q (f i)) from rfl, ← px_push _ _ p2] at ih'
          cases cb : ltr g q (f i) with
          | true =>
            rw [cb, b01_t] at ih'
            rw [b01_t, if_neg (by decide), nI_add]
            exact ih'
          | false =>
            rw [cb, b01_f] at ih'
            rw [b01_f, if_pos rfl, nI_add]
            exact ih'
end
