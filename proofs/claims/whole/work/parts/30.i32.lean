/-! PURE LAYER. nI n: the int of a small number; Nf g: a row of such. -/
theorem l_0 : (0 : Int32) = nI 0 := rfl
theorem l_1 : (1 : Int32) = nI 1 := rfl
theorem l_2 : (2 : Int32) = nI 2 := rfl
theorem l_3 : (3 : Int32) = nI 3 := rfl
theorem l_4 : (4 : Int32) = nI 4 := rfl
theorem l_5 : (5 : Int32) = nI 5 := rfl
theorem l_6 : (6 : Int32) = nI 6 := rfl
theorem l_7 : (7 : Int32) = nI 7 := rfl
theorem l_8 : (8 : Int32) = nI 8 := rfl
theorem l_9 : (9 : Int32) = nI 9 := rfl
theorem l_10 : (10 : Int32) = nI 10 := rfl
theorem l_11 : (11 : Int32) = nI 11 := rfl
theorem l_12 : (12 : Int32) = nI 12 := rfl
theorem l_13 : (13 : Int32) = nI 13 := rfl
theorem l_14 : (14 : Int32) = nI 14 := rfl
theorem l_15 : (15 : Int32) = nI 15 := rfl
theorem l_16 : (16 : Int32) = nI 16 := rfl
theorem l_17 : (17 : Int32) = nI 17 := rfl
theorem l_18 : (18 : Int32) = nI 18 := rfl
theorem l_19 : (19 : Int32) = nI 19 := rfl
theorem l_20 : (20 : Int32) = nI 20 := rfl
theorem l_21 : (21 : Int32) = nI 21 := rfl
theorem l_22 : (22 : Int32) = nI 22 := rfl
theorem l_23 : (23 : Int32) = nI 23 := rfl
theorem l_24 : (24 : Int32) = nI 24 := rfl
theorem l_25 : (25 : Int32) = nI 25 := rfl
theorem l_26 : (26 : Int32) = nI 26 := rfl
theorem l_27 : (27 : Int32) = nI 27 := rfl
theorem l_28 : (28 : Int32) = nI 28 := rfl
theorem l_29 : (29 : Int32) = nI 29 := rfl
theorem l_30 : (30 : Int32) = nI 30 := rfl
theorem l_31 : (31 : Int32) = nI 31 := rfl
theorem l_32 : (32 : Int32) = nI 32 := rfl
theorem l_33 : (33 : Int32) = nI 33 := rfl
theorem l_34 : (34 : Int32) = nI 34 := rfl
theorem l_35 : (35 : Int32) = nI 35 := rfl
theorem l_36 : (36 : Int32) = nI 36 := rfl
theorem l_40 : (40 : Int32) = nI 40 := rfl
theorem l_41 : (41 : Int32) = nI 41 := rfl
theorem l_48 : (48 : Int32) = nI 48 := rfl
theorem l_56 : (56 : Int32) = nI 56 := rfl
theorem l_57 : (57 : Int32) = nI 57 := rfl
theorem l_59 : (59 : Int32) = nI 59 := rfl
theorem l_60 : (60 : Int32) = nI 60 := rfl
theorem l_61 : (61 : Int32) = nI 61 := rfl
theorem l_62 : (62 : Int32) = nI 62 := rfl
theorem l_63 : (63 : Int32) = nI 63 := rfl
theorem l_79 : (79 : Int32) = nI 79 := rfl
theorem l_81 : (81 : Int32) = nI 81 := rfl
theorem l_88 : (88 : Int32) = nI 88 := rfl
theorem l_93 : (93 : Int32) = nI 93 := rfl
theorem l_97 : (97 : Int32) = nI 97 := rfl
theorem l_99 : (99 : Int32) = nI 99 := rfl
theorem l_105 : (105 : Int32) = nI 105 := rfl
theorem l_117 : (117 : Int32) = nI 117 := rfl
theorem l_121 : (121 : Int32) = nI 121 := rfl
theorem l_122 : (122 : Int32) = nI 122 := rfl
theorem l_125 : (125 : Int32) = nI 125 := rfl
theorem l_127 : (127 : Int32) = nI 127 := rfl
theorem l_131 : (131 : Int32) = nI 131 := rfl
theorem l_179 : (179 : Int32) = nI 179 := rfl
theorem l_185 : (185 : Int32) = nI 185 := rfl
theorem l_193 : (193 : Int32) = nI 193 := rfl
theorem l_197 : (197 : Int32) = nI 197 := rfl
theorem l_200 : (200 : Int32) = nI 200 := rfl
theorem l_201 : (201 : Int32) = nI 201 := rfl
theorem l_210 : (210 : Int32) = nI 210 := rfl
theorem l_255 : (255 : Int32) = nI 255 := rfl
theorem l_390 : (390 : Int32) = nI 390 := rfl
theorem l_400 : (400 : Int32) = nI 400 := rfl
theorem l_616 : (616 : Int32) = nI 616 := rfl
theorem l_900 : (900 : Int32) = nI 900 := rfl
theorem l_940 : (940 : Int32) = nI 940 := rfl
theorem l_999 : (999 : Int32) = nI 999 := rfl
theorem l_1000 : (1000 : Int32) = nI 1000 := rfl
theorem l_1024 : (1024 : Int32) = nI 1024 := rfl
theorem oI_sI (S : Ob) (k : Nat) (v : Int32) (j : Nat) : oI (sI S k v) j = if j = k then v else oI S j := rfl
theorem oI_sL (S : Ob) (k : Nat) (v : Int64) (j : Nat) : oI (sL S k v) j = oI S j := rfl
theorem oI_sW (S : Ob) (k : Nat) (v : Option Nat) (j : Nat) : oI (sW S k v) j = oI S j := rfl
theorem oI_sA (S : Ob) (k : Nat) (v : Nat → Int32) (j : Nat) : oI (sA S k v) j = oI S j := rfl
theorem oI_sJ (S : Ob) (k : Nat) (v : Nat → Int64) (j : Nat) : oI (sJ S k v) j = oI S j := rfl
theorem oI_sX (S : Ob) (k : Nat) (v : Nat → Option Nat) (j : Nat) : oI (sX S k v) j = oI S j := rfl
theorem oL_sI (S : Ob) (k : Nat) (v : Int32) (j : Nat) : oL (sI S k v) j = oL S j := rfl
theorem oL_sL (S : Ob) (k : Nat) (v : Int64) (j : Nat) : oL (sL S k v) j = if j = k then v else oL S j := rfl
theorem oL_sW (S : Ob) (k : Nat) (v : Option Nat) (j : Nat) : oL (sW S k v) j = oL S j := rfl
theorem oL_sA (S : Ob) (k : Nat) (v : Nat → Int32) (j : Nat) : oL (sA S k v) j = oL S j := rfl
theorem oL_sJ (S : Ob) (k : Nat) (v : Nat → Int64) (j : Nat) : oL (sJ S k v) j = oL S j := rfl
theorem oL_sX (S : Ob) (k : Nat) (v : Nat → Option Nat) (j : Nat) : oL (sX S k v) j = oL S j := rfl
theorem oW_sI (S : Ob) (k : Nat) (v : Int32) (j : Nat) : oW (sI S k v) j = oW S j := rfl
theorem oW_sL (S : Ob) (k : Nat) (v : Int64) (j : Nat) : oW (sL S k v) j = oW S j := rfl
theorem oW_sW (S : Ob) (k : Nat) (v : Option Nat) (j : Nat) : oW (sW S k v) j = if j = k then v else oW S j := rfl
theorem oW_sA (S : Ob) (k : Nat) (v : Nat → Int32) (j : Nat) : oW (sA S k v) j = oW S j := rfl
theorem oW_sJ (S : Ob) (k : Nat) (v : Nat → Int64) (j : Nat) : oW (sJ S k v) j = oW S j := rfl
theorem oW_sX (S : Ob) (k : Nat) (v : Nat → Option Nat) (j : Nat) : oW (sX S k v) j = oW S j := rfl
theorem oA_sI (S : Ob) (k : Nat) (v : Int32) (j : Nat) : oA (sI S k v) j = oA S j := rfl
theorem oA_sL (S : Ob) (k : Nat) (v : Int64) (j : Nat) : oA (sL S k v) j = oA S j := rfl
theorem oA_sW (S : Ob) (k : Nat) (v : Option Nat) (j : Nat) : oA (sW S k v) j = oA S j := rfl
theorem oA_sA (S : Ob) (k : Nat) (v : Nat → Int32) (j : Nat) : oA (sA S k v) j = if j = k then v else oA S j := rfl
theorem oA_sJ (S : Ob) (k : Nat) (v : Nat → Int64) (j : Nat) : oA (sJ S k v) j = oA S j := rfl
theorem oA_sX (S : Ob) (k : Nat) (v : Nat → Option Nat) (j : Nat) : oA (sX S k v) j = oA S j := rfl
theorem oJ_sI (S : Ob) (k : Nat) (v : Int32) (j : Nat) : oJ (sI S k v) j = oJ S j := rfl
theorem oJ_sL (S : Ob) (k : Nat) (v : Int64) (j : Nat) : oJ (sL S k v) j = oJ S j := rfl
theorem oJ_sW (S : Ob) (k : Nat) (v : Option Nat) (j : Nat) : oJ (sW S k v) j = oJ S j := rfl
theorem oJ_sA (S : Ob) (k : Nat) (v : Nat → Int32) (j : Nat) : oJ (sA S k v) j = oJ S j := rfl
theorem oJ_sJ (S : Ob) (k : Nat) (v : Nat → Int64) (j : Nat) : oJ (sJ S k v) j = if j = k then v else oJ S j := rfl
theorem oJ_sX (S : Ob) (k : Nat) (v : Nat → Option Nat) (j : Nat) : oJ (sX S k v) j = oJ S j := rfl
theorem oX_sI (S : Ob) (k : Nat) (v : Int32) (j : Nat) : oX (sI S k v) j = oX S j := rfl
theorem oX_sL (S : Ob) (k : Nat) (v : Int64) (j : Nat) : oX (sL S k v) j = oX S j := rfl
theorem oX_sW (S : Ob) (k : Nat) (v : Option Nat) (j : Nat) : oX (sW S k v) j = oX S j := rfl
theorem oX_sA (S : Ob) (k : Nat) (v : Nat → Int32) (j : Nat) : oX (sA S k v) j = oX S j := rfl
theorem oX_sJ (S : Ob) (k : Nat) (v : Nat → Int64) (j : Nat) : oX (sJ S k v) j = oX S j := rfl
theorem oX_sX (S : Ob) (k : Nat) (v : Nat → Option Nat) (j : Nat) : oX (sX S k v) j = if j = k then v else oX S j := rfl

def Nf (g : Nat → Nat) : Nat → Int32 := fun k => nI (g k)
theorem Nf_app (g : Nat → Nat) (k : Nat) : Nf g k = nI (g k) := rfl
theorem up_app {α : Type} (f : Nat → α) (k : Nat) (v : α) (j : Nat) : va_up f k v j = if j = k then v else f j := rfl
theorem up_Nf (g : Nat → Nat) (k v : Nat) : va_up (Nf g) k (nI v) = Nf (va_up g k v) := by
  funext j; unfold Nf va_up; split <;> rfl
theorem sA_sA (S : Ob) (k : Nat) (f h : Nat → Int32) : sA (sA S k f) k h = sA S k h := by
  unfold sA; congr 4; funext j; simp only [va_up]; split <;> rfl
theorem sI_sI (S : Ob) (k : Nat) (f h : Int32) : sI (sI S k f) k h = sI S k h := by
  unfold sI; congr 1; funext j; simp only [va_up]; split <;> rfl
theorem sA_self (S : Ob) (k : Nat) : sA S k (oA S k) = S := by
  unfold sA oA
  have : va_up S.2.2.2.1 k (S.2.2.2.1 k) = S.2.2.2.1 := by
    funext j; unfold va_up; split
    · next h => rw [h]
    · rfl
  rw [this]
theorem sI_self (S : Ob) (k : Nat) : sI S k (oI S k) = S := by
  unfold sI oI
  have : va_up S.1 k (S.1 k) = S.1 := by
    funext j; unfold va_up; split
    · next h => rw [h]
    · rfl
  rw [this]
theorem n10 : ((1 : Nat) = 0) = False := by decide
theorem n01 : ((0 : Nat) = 1) = False := by decide
theorem ite_true_ {α : Type} (a b : α) : (if True then a else b) = a := if_pos trivial
theorem ite_false_ {α : Type} (a b : α) : (if False then a else b) = b := if_neg id
theorem e_ltT {a b : Nat} (h : a < b) (hb : b < 2147483648) : (nI a < nI b) = True := eq_true (nI_lt h hb)
theorem e_ltF {a b : Nat} (h : b ≤ a) (hb : a < 2147483648) : (nI a < nI b) = False := eq_false (nI_nlt h hb)
theorem e_leT {a b : Nat} (h : a ≤ b) (hb : b < 2147483648) : (nI a ≤ nI b) = True := eq_true (nI_le h hb)
theorem e_leF {a b : Nat} (h : b < a) (hb : a < 2147483648) : (nI a ≤ nI b) = False := eq_false (nI_ge h hb)
theorem e_eqT {a b : Nat} (h : a = b) : (nI a = nI b) = True := eq_true (by rw [h])
theorem e_eqF {a b : Nat} (h : a ≠ b) (ha : a < 2147483648) (hb : b < 2147483648) : (nI a = nI b) = False := eq_false (fun e => h ((nI_eq ha hb).mp e))
theorem e_lt {a b : Nat} (ha : a < 2147483648) (hb : b < 2147483648) : (nI a < nI b) = (a < b) := propext (nI_ltI ha hb)
theorem e_le {a b : Nat} (ha : a < 2147483648) (hb : b < 2147483648) : (nI a ≤ nI b) = (a ≤ b) := propext (nI_leI ha hb)
theorem e_eq {a b : Nat} (ha : a < 2147483648) (hb : b < 2147483648) : (nI a = nI b) = (a = b) := propext (nI_eq ha hb)
theorem e_cl {a : Nat} (ha : a < 2147483648) : (nI a).toNatClampNeg = a := nI_clamp ha
theorem e_sub {a b : Nat} (h : b ≤ a) : nI a - nI b = nI (a - b) := pk_sub h
theorem e_in {a n : Nat} (h : a < n) (hn : n < 2147483648) : inB (nI a) n = true := by
  unfold inB; rw [decide_eq_true_eq]; exact nI_in h hn
theorem e_gd {α : Type} (x : Option α) : gd true x = x := rfl
theorem e_bd {α β : Type} (a : α) (f : α → Option β) : (some a).bind f = f a := rfl
theorem e_z0 : z01 (nI 0) = true := by decide
theorem e_z1 : z01 (nI 1) = true := by decide
theorem e_refl (a : Nat) : (nI a = nI a) = True := eq_true rfl
theorem e_reflN : (-nI 1 = -nI 1) = True := eq_true rfl
theorem m1_int : (-nI 1).toInt = -1 := by decide
theorem e_ne {a : Nat} (h : a < 2147483648) : (nI a = -nI 1) = False := eq_false (fun e => by
  have h1 := congrArg Int32.toInt e; rw [m1_int, nI_toInt h] at h1; omega)
theorem e_en {a : Nat} (h : a < 2147483648) : (-nI 1 = nI a) = False := eq_false (fun e => by
  have h1 := congrArg Int32.toInt e; rw [m1_int, nI_toInt h] at h1; omega)
theorem e_nlt {a : Nat} (h : a < 2147483648) : (-nI 1 < nI a) = True := eq_true (by
  rw [Int32.lt_iff_toInt_lt, m1_int, nI_toInt h]; omega)
theorem e_ltn {a : Nat} (h : a < 2147483648) : (nI a < -nI 1) = False := eq_false (by
  rw [Int32.lt_iff_toInt_lt, m1_int, nI_toInt h]; omega)
theorem e_len {a : Nat} (h : a < 2147483648) : (nI a ≤ -nI 1) = False := eq_false (by
  rw [Int32.le_iff_toInt_le, m1_int, nI_toInt h]; omega)
theorem e_nle {a : Nat} (h : a < 2147483648) : (-nI 1 ≤ nI a) = True := eq_true (by
  rw [Int32.le_iff_toInt_le, m1_int, nI_toInt h]; omega)
theorem e_nn : (-nI 1 + nI 1) = nI 0 := by decide
theorem e_addn {a b : Nat} (h : b ≤ a) : nI a + -nI b = nI (a - b) := by
  rw [← pk_sub h]; exact (Int32.sub_eq_add_neg (a := nI a) (b := nI b)).symm
theorem fu_eq : fu = 100000 := rfl
/-- an int is below 0, or not below n, or one of the n first -/
theorem i_cases (x : Int32) (n : Nat) (hn : n < 2147483648) : (x < 0) ∨ (¬ x < 0 ∧ nI n ≤ x) ∨ ∃ j, j < n ∧ x = nI j := by
  rcases pk_ix x (n := n) hn with h | h | h
  · exact Or.inl h
  · by_cases h0 : x < 0
    · exact Or.inl h0
    · exact Or.inr (Or.inl ⟨h0, h⟩)
  · exact Or.inr (Or.inr h)
/-! sums, runs of like ones, numbers of runs, sets as bits -/
def sm (f : Nat → Nat) : Nat → Nat
  | 0 => 0
  | n + 1 => sm f n + f n
theorem sm_cong {f h : Nat → Nat} : ∀ {n : Nat}, (∀ k, k < n → f k = h k) → sm f n = sm h n
  | 0, _ => rfl
  | n + 1, H => by rw [sm, sm, sm_cong (fun k hk => H k (by omega)), H n (by omega)]
theorem sm_le {f : Nat → Nat} {c : Nat} : ∀ {n : Nat}, (∀ k, k < n → f k ≤ c) → sm f n ≤ n * c
  | 0, _ => by simp [sm]
  | n + 1, H => by
    have h1 := sm_le (n := n) (fun k hk => H k (by omega))
    have h2 := H n (by omega)
    rw [sm, Nat.succ_mul]; omega
theorem sm_ge (f : Nat → Nat) {i : Nat} : ∀ {n : Nat}, i < n → f i ≤ sm f n
  | 0, h => by omega
  | n + 1, h => by
    rw [sm]
    by_cases e : i = n
    · subst e; omega
    · have := sm_ge f (i := i) (n := n) (by omega); omega
theorem sm_up (f : Nat → Nat) (i v : Nat) : ∀ {n : Nat}, i < n → sm (va_up f i v) n + f i = sm f n + v
  | 0, h => by omega
  | n + 1, h => by
    rw [sm, sm]
    by_cases e : i = n
    · subst e
      have h1 : sm (va_up f i v) i = sm f i := sm_cong (fun k hk => by rw [up_app, if_neg (by omega)])
      rw [h1, up_app, if_pos rfl]; omega
    · have h1 := sm_up f i v (n := n) (by omega)
      rw [up_app, if_neg (by omega)]; omega
theorem sm_front (f : Nat → Nat) : ∀ n, sm f (n + 1) = f 0 + sm (fun k => f (k + 1)) n
  | 0 => by simp [sm]
  | n + 1 => by rw [sm, sm_front f n, sm]; omega
theorem sm_rev : ∀ (n : Nat) (f : Nat → Nat), sm (fun k => f (n - 1 - k)) n = sm f n
  | 0, _ => rfl
  | n + 1, f => by
    rw [sm_front]
    have h1 : sm (fun k => f (n + 1 - 1 - (k + 1))) n = sm (fun k => f (n - 1 - k)) n := sm_cong (fun k hk => by congr 1; omega)
    rw [h1, sm_rev n f, sm, Nat.add_comm]; rfl
/-- how many of the last ones below t are v -/
def kr (f : Nat → Nat) (v : Nat) : Nat → Nat
  | 0 => 0
  | t + 1 => if f t = v then kr f v t + 1 else 0
theorem kr_le (f : Nat → Nat) (v : Nat) : ∀ t, kr f v t ≤ t
  | 0 => Nat.le_refl 0
  | t + 1 => by
    have := kr_le f v t
    rw [kr]; split <;> omega
theorem kr_pos (f : Nat → Nat) {t : Nat} (h : 0 < t) : 0 < kr f (f (t - 1)) t := by
  cases t with
  | zero => omega
  | succ t => rw [kr, Nat.add_sub_cancel, if_pos rfl]; omega
theorem kr_cong {f h : Nat → Nat} {v : Nat} : ∀ {t : Nat}, (∀ k, k < t → f k = h k) → kr f v t = kr h v t
  | 0, _ => rfl
  | t + 1, H => by rw [kr, kr, kr_cong (t := t) (fun k hk => H k (by omega)), H t (by omega)]
theorem kr_at {f : Nat → Nat} {v : Nat} : ∀ {t i : Nat}, i < kr f v t → f (t - 1 - i) = v
  | 0, i, h => by simp [kr] at h
  | t + 1, i, h => by
    rw [kr] at h
    split at h
    · next e =>
      cases i with
      | zero => simpa using e
      | succ i =>
        have := kr_at (f := f) (v := v) (t := t) (i := i) (by omega)
        rw [← this]; congr 1; omega
    · omega
/-- how many runs there are below t -/
def kc (f : Nat → Nat) : Nat → Nat
  | 0 => 0
  | t + 1 => kc f t + (if t = 0 ∨ f t ≠ f (t - 1) then 1 else 0)
theorem kc_le (f : Nat → Nat) : ∀ t, kc f t ≤ t
  | 0 => Nat.le_refl 0
  | t + 1 => by
    have := kc_le f t
    rw [kc]; split <;> omega
theorem kc_pos (f : Nat → Nat) : ∀ {t}, 0 < t → 0 < kc f t
  | 1, _ => by rw [kc, if_pos (Or.inl rfl)]; omega
  | t + 2, _ => by rw [kc]; have := kc_pos f (t := t + 1) (by omega); omega
theorem kc_run (f : Nat → Nat) (v : Nat) : ∀ {t}, 0 < t → f (t - 1) = v → kc f t = kc f (t - kr f v t) + 1
  | 1, _, hv => by
    have e : f 0 = v := hv
    rw [kr, kr, if_pos e, kc, kc, if_pos (Or.inl rfl)]; rfl
  | t + 2, _, hv => by
    have e : f (t + 1) = v := hv
    rw [kr, if_pos e, kc]
    by_cases h1 : f t = v
    · have h2 := kc_run f v (t := t + 1) (by omega) h1
      rw [if_neg (by rw [Nat.add_sub_cancel, e, h1]; omega), h2, Nat.add_zero]
      congr 2; omega
    · have h2 : kr f v (t + 1) = 0 := by rw [kr, if_neg h1]
      rw [if_pos (Or.inr (by rw [Nat.add_sub_cancel, e]; exact fun h => h1 h.symm)), h2]
      congr 1
def bs (P : Nat → Bool) : Nat → Nat
  | 0 => 0
  | n + 1 => bs P n ||| (if P n then 2 ^ n else 0)
theorem bs_bit (P : Nat → Bool) (i : Nat) : ∀ n, (bs P n).testBit i = (decide (i < n) && P i)
  | 0 => by simp [bs]
  | n + 1 => by
    rw [bs, Nat.testBit_or, bs_bit P i n]
    by_cases e : i = n
    · subst e
      cases P i <;> simp
    · have h : (if P n = true then 2 ^ n else 0).testBit i = false := by
        split
        · rw [Nat.testBit_two_pow]; simp; omega
        · exact Nat.zero_testBit i
      rw [h, Bool.or_false]
      by_cases h2 : i < n
      · simp [h2, Nat.lt_succ_of_lt h2]
      · have h3 : ¬ i < n + 1 := by omega
        simp [h2, h3]
theorem bs_lt (P : Nat → Bool) : ∀ n, bs P n < 2 ^ n
  | 0 => by simp [bs]
  | n + 1 => by
    rw [bs]
    refine Nat.or_lt_two_pow (Nat.lt_of_lt_of_le (bs_lt P n) (Nat.pow_le_pow_right (by decide) (by omega))) ?_
    split
    · exact Nat.pow_lt_pow_right (by decide) (by omega)
    · exact Nat.two_pow_pos _
theorem bs_cong {P Q : Nat → Bool} : ∀ {n : Nat}, (∀ k, k < n → P k = Q k) → bs P n = bs Q n
  | 0, _ => rfl
  | n + 1, H => by rw [bs, bs, bs_cong (fun k hk => H k (by omega)), H n (by omega)]
theorem e_or (a b : Nat) : nI a ||| nI b = nI (a ||| b) := by
  apply Int32.toBitVec_inj.mp
  rw [Int32.toBitVec_or]
  show BitVec.ofNat 32 a ||| BitVec.ofNat 32 b = BitVec.ofNat 32 (a ||| b)
  apply BitVec.eq_of_toNat_eq
  simp [BitVec.toNat_ofNat, Nat.or_mod_two_pow]
theorem e_or0 (a : Nat) : nI a ||| nI 0 = nI a := by rw [e_or, Nat.or_zero]
theorem e_shlA : ∀ k, k < 31 → nI 1 <<< (nI k &&& nI 31) = nI (2 ^ k) := by decide +kernel
theorem e_shl {k : Nat} (h : k < 31) : nI 1 <<< (nI k &&& nI 31) = nI (2 ^ k) := e_shlA k h
theorem e_cnt : ∀ k, k < 32 → ((nI k &&& nI 31).toBitVec.smod 32).toNat = k := by decide +kernel
theorem e_shr {a k : Nat} (ha : a < 2147483648) (hk : k < 31) : nI a >>> (nI k &&& nI 31) = nI (a / 2 ^ k) := pk_shrN ha _ k (e_cnt k (by omega))
theorem e_and1 {a : Nat} (ha : a < 2147483648) : nI a &&& nI 1 = nI (a % 2) := pk_andN (by omega) 1 (by decide)
theorem e_bitA {a k : Nat} (ha : a < 2147483648) (hk : k < 31) : (nI a >>> (nI k &&& nI 31)) &&& nI 1 = nI (if a.testBit k then 1 else 0) := by
  rw [e_shr ha hk, e_and1 (Nat.lt_of_le_of_lt (Nat.div_le_self _ _) ha)]
  congr 1
  rw [Nat.testBit_eq_decide_div_mod_eq]
  have := Nat.mod_lt (a / 2 ^ k) (by decide : 0 < 2)
  by_cases h : a / 2 ^ k % 2 = 1
  · simp [h]
  · have h2 : a / 2 ^ k % 2 = 0 := by omega
    simp [h2]
theorem e_bitT {a k : Nat} (h : a.testBit k = true) (ha : a < 2147483648) (hk : k < 31) : ((nI a >>> (nI k &&& nI 31)) &&& nI 1 = nI 1) = True := by
  rw [e_bitA ha hk, h]; exact eq_true rfl
theorem e_bitF {a k : Nat} (h : a.testBit k = false) (ha : a < 2147483648) (hk : k < 31) : ((nI a >>> (nI k &&& nI 31)) &&& nI 1 = nI 1) = False := by
  rw [e_bitA ha hk, h]; exact eq_false (by decide)
