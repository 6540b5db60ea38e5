/-! beds filled out of the bag: what a search over sets finds, and what one over orders finds -/
set_option maxRecDepth 20000 in
theorem xs_A : ∀ s, s < 1024 → ∀ k, k < 10 → s.testBit k = true → s ^^^ 2 ^ k = s - 2 ^ k := by decide +kernel
theorem xs_tb {s k : Nat} (hs : s < 1024) (hk : k < 10) (h : s.testBit k = true) (i : Nat) : (s - 2 ^ k).testBit i = (s.testBit i && decide (i ≠ k)) := by
  rw [← xs_A s hs k hk h, Nat.testBit_xor, Nat.testBit_two_pow]
  by_cases c : k = i
  · subst c; rw [h]; simp
  · have c2 : i ≠ k := fun e => c e.symm
    simp [c, c2]
theorem xs_le {s k : Nat} (h : s.testBit k = true) : 2 ^ k ≤ s := Nat.ge_two_pow_of_testBit h
theorem sm_add1 {f h : Nat → Nat} {k : Nat} : ∀ {n : Nat}, k < n → (∀ i, i < n → i ≠ k → f i = h i) → h k = 0 → sm f n = sm h n + f k
  | 0, hk, _, _ => by omega
  | n + 1, hk, H, h0 => by
    rw [sm, sm]
    by_cases c : k = n
    · subst c
      rw [sm_cong (fun i hi => H i (by omega) (by omega)), h0]; omega
    · rw [sm_add1 (n := n) (by omega) (fun i hi => H i (by omega)) h0, H n (by omega) (by omega)]; omega
theorem sm_pt {f h : Nat → Nat} : ∀ {n : Nat}, (∀ i, i < n → f i ≤ h i) → sm f n ≤ sm h n
  | 0, _ => Nat.le_refl _
  | n + 1, H => by
    have := sm_pt (n := n) (fun i hi => H i (by omega))
    have := H n (by omega)
    rw [sm, sm]; omega
def as_ (a it : Nat → Nat) (n j : Nat) : Nat := sm (fun i => if a i = j then it i else 0) n
def sa_ (s : Nat) (a it : Nat → Nat) (n j : Nat) : Nat := sm (fun i => if s.testBit i = true ∧ a i = j then it i else 0) n
def ss (it : Nat → Nat) (n s : Nat) : Nat := sm (fun i => if s.testBit i = true then it i else 0) n
def EA (it : Nat → Nat) (n : Nat) (lk : Nat → Nat) (b : Nat) : Prop := ∃ a : Nat → Nat, ∀ j, j < 4 → b.testBit j = true → lk j ≤ as_ a it n j
def PA (it : Nat → Nat) (n : Nat) (lk : Nat → Nat) (b s : Nat) : Prop := ∃ a : Nat → Nat, (∀ i, i < n → s.testBit i = true → b.testBit (a i) = true) ∧ ∀ j, j < 4 → b.testBit j = true → lk j ≤ sa_ s a it n j
theorem tb_zero {s n : Nat} (hs : s < 2 ^ n) (h : ∀ i, i < n → s.testBit i = false) : s = 0 := by
  apply Nat.eq_of_testBit_eq
  intro i
  rw [Nat.zero_testBit]
  by_cases c : i < n
  · exact h i c
  · exact Nat.testBit_lt_two_pow (Nat.lt_of_lt_of_le hs (Nat.pow_le_pow_right (by decide) (by omega)))
theorem PA_0 {it lk : Nat → Nat} {n s : Nat} (hs : s < 2 ^ n) : PA it n lk 0 s ↔ s = 0 := by
  constructor
  · rintro ⟨a, h1, _⟩
    refine tb_zero hs (fun i hi => ?_)
    cases c : s.testBit i with
    | false => rfl
    | true => have := h1 i hi c; rw [Nat.zero_testBit] at this; cases this
  · rintro rfl
    exact ⟨fun _ => 0, fun i _ h => (by rw [Nat.zero_testBit] at h; cases h), fun j _ h => (by rw [Nat.zero_testBit] at h; cases h)⟩
theorem sub_tb {o s : Nat} (h : o &&& s = o) (i : Nat) (hi : o.testBit i = true) : s.testBit i = true := by
  rw [← h, Nat.testBit_and, Bool.and_eq_true] at hi; exact hi.2
theorem PA_rec {it lk : Nat → Nat} {n b b2 l s : Nat} (hl : l < 4) (hb : b.testBit l = true) (hb2 : ∀ j, b2.testBit j = (b.testBit j && decide (j ≠ l))) (hk : 1 ≤ lk l) :
    PA it n lk b s ↔ ∃ o, 0 < o ∧ o &&& s = o ∧ lk l ≤ ss it n o ∧ PA it n lk b2 (s ^^^ o) := by
  constructor
  · rintro ⟨a, h1, h2⟩
    have ob : ∀ i, (bs (fun i => s.testBit i && decide (a i = l)) n).testBit i = (decide (i < n) && (s.testBit i && decide (a i = l))) := fun i => bs_bit _ i n
    have e1 : ss it n (bs (fun i => s.testBit i && decide (a i = l)) n) = sa_ s a it n l := by
      refine sm_cong (fun i hi => ?_)
      rw [ob i, decide_eq_true hi, Bool.true_and]
      by_cases c : s.testBit i = true ∧ a i = l
      · rw [if_pos c, if_pos (by rw [c.1, decide_eq_true c.2]; rfl)]
      · rw [if_neg c, if_neg (fun e => c (by simpa using e))]
    have h3 := h2 l hl hb
    refine ⟨bs (fun i => s.testBit i && decide (a i = l)) n, ?_, ?_, by rw [e1]; exact h3, a, fun i hi hx => ?_, fun j hj hbj => ?_⟩
    · rcases Nat.eq_zero_or_pos (bs (fun i => s.testBit i && decide (a i = l)) n) with e | e
      · rw [e] at e1
        have : ss it n 0 = 0 := by
          unfold ss
          rw [sm_cong (h := fun _ => 0) (fun i _ => by rw [Nat.zero_testBit]; rfl)]
          have := sm_le (f := fun _ => 0) (c := 0) (n := n) (fun _ _ => Nat.le_refl _)
          omega
        omega
      · exact e
    · apply Nat.eq_of_testBit_eq
      intro i
      rw [Nat.testBit_and, ob i]
      cases s.testBit i <;> simp
    · rw [Nat.testBit_xor, ob i, decide_eq_true hi, Bool.true_and] at hx
      cases c : s.testBit i with
      | false => rw [c] at hx; simp at hx
      | true =>
        rw [c] at hx
        have hne : a i ≠ l := by simpa using hx
        rw [hb2, h1 i hi c, decide_eq_true hne]; rfl
    · rw [hb2, Bool.and_eq_true, decide_eq_true_eq] at hbj
      refine Nat.le_trans (h2 j hj hbj.1) (Nat.le_of_eq (sm_cong (fun i hi => ?_)))
      rw [Nat.testBit_xor, ob i, decide_eq_true hi, Bool.true_and]
      by_cases c : a i = j
      · have hne : ¬ a i = l := fun e => hbj.2 (c.symm.trans e)
        rw [decide_eq_false hne, Bool.and_false, Bool.xor_false]
      · rw [if_neg (fun e => c e.2), if_neg (fun e => c e.2)]
  · rintro ⟨o, _, ho, h3, a, h1, h2⟩
    have ox : ∀ i, (s ^^^ o).testBit i = (s.testBit i && !o.testBit i) := fun i => by
      rw [Nat.testBit_xor]
      cases c : o.testBit i with
      | false => simp
      | true => rw [sub_tb ho i c]; rfl
    refine ⟨fun i => if o.testBit i = true then l else a i, fun i hi hx => ?_, fun j hj hbj => ?_⟩
    · show b.testBit (if o.testBit i = true then l else a i) = true
      by_cases c : o.testBit i = true
      · rw [if_pos c]; exact hb
      · rw [if_neg c]
        have := h1 i hi (by rw [ox, hx]; simpa using c)
        rw [hb2, Bool.and_eq_true] at this; exact this.1
    · by_cases c : j = l
      · subst c
        refine Nat.le_trans h3 (sm_pt (fun i hi => ?_))
        by_cases c2 : o.testBit i = true
        · rw [if_pos c2, if_pos ⟨sub_tb ho i c2, if_pos c2⟩]; exact Nat.le_refl _
        · rw [if_neg c2]; exact Nat.zero_le _
      · have := h2 j hj (by rw [hb2, hbj, decide_eq_true c]; rfl)
        refine Nat.le_trans this (sm_pt (fun i hi => ?_))
        by_cases c2 : (s ^^^ o).testBit i = true ∧ a i = j
        · have c3 := c2.1
          rw [ox, Bool.and_eq_true] at c3
          have c4 : ¬ o.testBit i = true := by simpa using c3.2
          rw [if_pos c2, if_pos ⟨c3.1, (if_neg c4).trans c2.2⟩]; exact Nat.le_refl _
        · rw [if_neg c2]; exact Nat.zero_le _
theorem EA_PA {it lk : Nat → Nat} {n b : Nat} (hb : b < 16) : EA it n lk b ↔ ∃ s, s < 2 ^ n ∧ PA it n lk b s := by
  constructor
  · rintro ⟨a, h⟩
    have ob : ∀ i, (bs (fun i => b.testBit (a i)) n).testBit i = (decide (i < n) && b.testBit (a i)) := fun i => bs_bit _ i n
    refine ⟨bs (fun i => b.testBit (a i)) n, bs_lt _ _, a, fun i hi hx => ?_, fun j hj hbj => ?_⟩
    · rw [ob i, Bool.and_eq_true] at hx; exact hx.2
    · refine Nat.le_trans (h j hj hbj) (sm_pt (fun i hi => ?_))
      by_cases c : a i = j
      · rw [if_pos c, if_pos ⟨by rw [ob i, decide_eq_true hi, c, hbj]; rfl, c⟩]; exact Nat.le_refl _
      · rw [if_neg c]; exact Nat.zero_le _
  · rintro ⟨s, _, a, _, h2⟩
    refine ⟨fun i => if s.testBit i = true then a i else 99, fun j hj hbj => ?_⟩
    refine Nat.le_trans (h2 j hj hbj) (sm_pt (fun i hi => ?_))
    by_cases c : s.testBit i = true ∧ a i = j
    · rw [if_pos c]
      show _ ≤ if (if s.testBit i = true then a i else 99) = j then it i else 0
      rw [if_pos c.1, if_pos c.2]; exact Nat.le_refl _
    · rw [if_neg c]; exact Nat.zero_le _
/-! the search over orders -/
def stp (mi : Nat → Nat) (w x v : Nat) : Nat := if w ≤ x / 128 then x else if x % 128 + v < mi (x / 128) then x + v else (x / 128 + 1) * 128
def vd (mi : Nat → Nat) (w x : Nat) : Prop := x / 128 ≤ w ∧ (x / 128 < w → x % 128 < mi (x / 128)) ∧ (x / 128 = w → x % 128 = 0)
theorem stp_vd {mi : Nat → Nat} {w x v : Nat} (hm : ∀ j, j < w → 1 ≤ mi j ∧ mi j ≤ 99) (hx : vd mi w x) : vd mi w (stp mi w x v) ∧ x ≤ stp mi w x v := by
  obtain ⟨a, b, c⟩ := hx
  unfold stp
  by_cases h1 : w ≤ x / 128
  · rw [if_pos h1]; exact ⟨⟨a, b, c⟩, Nat.le_refl _⟩
  · rw [if_neg h1]
    have m1 := hm (x / 128) (by omega)
    by_cases h2 : x % 128 + v < mi (x / 128)
    · rw [if_pos h2]
      have e1 : (x + v) / 128 = x / 128 := by omega
      have e2 : (x + v) % 128 = x % 128 + v := by omega
      exact ⟨⟨by omega, fun _ => by rw [e1, e2]; exact h2, fun e => by omega⟩, by omega⟩
    · rw [if_neg h2]
      have e1 : (x / 128 + 1) * 128 / 128 = x / 128 + 1 := by omega
      have e2 : (x / 128 + 1) * 128 % 128 = 0 := by omega
      exact ⟨⟨by omega, fun h => by rw [e2]; have := hm _ h; omega, fun _ => e2⟩, by omega⟩
theorem stp_mono {mi : Nat → Nat} {w x y v : Nat} (hm : ∀ j, j < w → 1 ≤ mi j ∧ mi j ≤ 99) (hx : vd mi w x) (hy : vd mi w y) (h : x ≤ y) : stp mi w x v ≤ stp mi w y v := by
  have hy2 := (stp_vd (v := v) hm hy).2
  obtain ⟨a, b, c⟩ := hx
  obtain ⟨a', b', c'⟩ := hy
  by_cases e : x / 128 = y / 128
  · unfold stp
    rw [← e]
    by_cases h1 : w ≤ x / 128
    · rw [if_pos h1, if_pos h1]; exact h
    · rw [if_neg h1, if_neg h1]
      have m1 := hm (x / 128) (by omega)
      have b1 := b (by omega)
      by_cases h2 : y % 128 + v < mi (x / 128)
      · rw [if_pos h2, if_pos (by omega)]; omega
      · rw [if_neg h2]
        split <;> omega
  · have h3 : x / 128 < y / 128 := by omega
    refine Nat.le_trans ?_ hy2
    unfold stp
    rw [if_neg (by omega)]
    have m1 := hm (x / 128) (by omega)
    split <;> omega
/-! of like things the first are taken -/
def cB (L s : Nat) : Bool := decide (s &&& L &&& (1023 ^^^ (2 * s % 1024)) = 0)
theorem cB_bit (L s i : Nat) : (s &&& L &&& (1023 ^^^ (2 * s % 1024))).testBit i = (s.testBit i && L.testBit i && (decide (i < 10) ^^ (decide (i < 10) && (decide (1 ≤ i) && s.testBit (i - 1))))) := by
  have h1 : (1023 : Nat).testBit i = decide (i < 10) := Nat.testBit_two_pow_sub_one 10 i
  have h2 : (2 * s % 1024).testBit i = (decide (i < 10) && (2 * s).testBit i) := Nat.testBit_mod_two_pow (2 * s) 10 i
  have h3 : (2 * s).testBit i = (decide (1 ≤ i) && s.testBit (i - 1)) := by
    cases i with
    | zero => rw [Nat.testBit_zero]; simp
    | succ i => rw [Nat.testBit_succ, Nat.mul_div_cancel_left _ (by decide)]; simp
  rw [Nat.testBit_and, Nat.testBit_and, Nat.testBit_xor, h1, h2, h3]
theorem cB_iff {L s : Nat} (hs : s < 1024) : cB L s = true ↔ ∀ i, s.testBit i = true → L.testBit i = true → 1 ≤ i ∧ s.testBit (i - 1) = true := by
  have h10 : ∀ i, s.testBit i = true → i < 10 := fun i hi => by
    rcases Nat.lt_or_ge i 10 with h | h
    · exact h
    · rw [Nat.testBit_lt_two_pow (Nat.lt_of_lt_of_le hs (show 2 ^ 10 ≤ 2 ^ i from Nat.pow_le_pow_right (by decide) h))] at hi
      cases hi
  constructor
  · intro h i h1 h2
    have h := of_decide_eq_true h
    have b := cB_bit L s i
    rw [h, Nat.zero_testBit, h1, h2, decide_eq_true (h10 i h1)] at b
    by_cases c : 1 ≤ i
    · refine ⟨c, ?_⟩
      rw [decide_eq_true c] at b
      cases e : s.testBit (i - 1) with
      | true => rfl
      | false => rw [e] at b; cases b
    · rw [decide_eq_false c] at b; cases b
  · intro h
    refine decide_eq_true (Nat.eq_of_testBit_eq (fun i => ?_))
    rw [cB_bit, Nat.zero_testBit]
    cases e1 : s.testBit i with
    | false => rfl
    | true =>
      cases e2 : L.testBit i with
      | false => rfl
      | true =>
        obtain ⟨h1, h2⟩ := h i e1 e2
        rw [decide_eq_true (h10 i e1), decide_eq_true h1, h2]; rfl
theorem cB_bs {L n : Nat} {P : Nat → Bool} (hn : n ≤ 10) (h : ∀ i, i < n → P i = true → L.testBit i = true → 1 ≤ i ∧ P (i - 1) = true) : cB L (bs P n) = true := by
  refine (cB_iff (Nat.lt_of_lt_of_le (bs_lt P n) (show 2 ^ n ≤ 2 ^ 10 from Nat.pow_le_pow_right (by decide) hn))).mpr (fun i h1 h2 => ?_)
  rw [bs_bit, Bool.and_eq_true, decide_eq_true_eq] at h1
  obtain ⟨h3, h4⟩ := h i h1.1 h1.2 h2
  exact ⟨h3, by rw [bs_bit, h4, decide_eq_true (by omega)]; rfl⟩
theorem cl_bed {a : Nat → Nat} {j k i : Nat} (h1 : 1 ≤ i) (h2 : a (i - 1) ≤ a i) (h : (decide (a i < j) || (decide (i < k) && decide (a i = j))) = true) : (decide (a (i - 1) < j) || (decide (i - 1 < k) && decide (a (i - 1) = j))) = true := by
  simp only [Bool.or_eq_true, Bool.and_eq_true, decide_eq_true_eq] at h ⊢
  omega
def DPc (L : Nat) (it : Nat → Nat) (n : Nat) (mi : Nat → Nat) (w : Nat) (d : Nat → Nat) : Prop := d 0 = 0 ∧ ∀ s, 0 < s → s < 2 ^ n → cB L s = true → (∀ i, i < n → s.testBit i = true → cB L (s - 2 ^ i) = true → stp mi w (d (s - 2 ^ i)) (it i) ≤ d s) ∧ (d s = 0 ∨ ∃ i, i < n ∧ s.testBit i = true ∧ cB L (s - 2 ^ i) = true ∧ d s = stp mi w (d (s - 2 ^ i)) (it i))
theorem vd_0 {mi : Nat → Nat} {w : Nat} (hm : ∀ j, j < w → 1 ≤ mi j ∧ mi j ≤ 99) : vd mi w 0 := ⟨by omega, fun h => by have := hm 0 (by omega); show 0 % 128 < mi 0; omega, fun _ => rfl⟩
theorem DP_vd {it mi d : Nat → Nat} {n w L : Nat} (hm : ∀ j, j < w → 1 ≤ mi j ∧ mi j ≤ 99) (hD : DPc L it n mi w d) : ∀ (m s : Nat), s ≤ m → s < 2 ^ n → cB L s = true → vd mi w (d s)
  | 0, s, h, _, _ => by
    have : s = 0 := by omega
    rw [this, hD.1]; exact vd_0 hm
  | m + 1, s, h, hs, hc => by
    by_cases c : s = 0
    · rw [c, hD.1]; exact vd_0 hm
    · rcases (hD.2 s (by omega) hs hc).2 with e | ⟨i, _, h2, hc2, h3⟩
      · rw [e]; exact vd_0 hm
      · have := xs_le h2
        have p := Nat.two_pow_pos i
        rw [h3]
        exact (stp_vd hm (DP_vd hm hD m (s - 2 ^ i) (by omega) (by omega) hc2)).1
theorem DP_sound {it mi d : Nat → Nat} {n w L : Nat} (hn : n ≤ 10) (hm : ∀ j, j < w → 1 ≤ mi j ∧ mi j ≤ 99) (hD : DPc L it n mi w d) : ∀ (m s : Nat), s ≤ m → s < 2 ^ n → cB L s = true → ∃ a : Nat → Nat, (∀ j, j < d s / 128 → mi j ≤ sa_ s a it n j) ∧ d s % 128 ≤ sa_ s a it n (d s / 128)
  | 0, s, h, _, _ => by
    have : s = 0 := by omega
    rw [this, hD.1]; exact ⟨fun _ => 0, fun j hj => by omega, by omega⟩
  | m + 1, s, h, hs, hc => by
    by_cases c : s = 0
    · rw [c, hD.1]; exact ⟨fun _ => 0, fun j hj => by omega, by omega⟩
    · rcases (hD.2 s (by omega) hs hc).2 with e | ⟨k, hk, h2, hc2, h3⟩
      · rw [e]; exact ⟨fun _ => 0, fun j hj => by omega, by omega⟩
      · have hle := xs_le h2
        have p := Nat.two_pow_pos k
        have s10 : s < 1024 := Nat.lt_of_lt_of_le hs (Nat.pow_le_pow_right (by decide) hn)
        obtain ⟨a, g1, g2⟩ := DP_sound hn hm hD m (s - 2 ^ k) (by omega) (by omega) hc2
        have v := DP_vd hm hD m (s - 2 ^ k) (by omega) (by omega) hc2
        have tb := xs_tb s10 (by omega) h2
        have add : ∀ c j, sa_ s (va_up a k c) it n j = sa_ (s - 2 ^ k) a it n j + (if c = j then it k else 0) := by
          intro c j
          have e := sm_add1 (f := fun i => if s.testBit i = true ∧ va_up a k c i = j then it i else 0) (h := fun i => if (s - 2 ^ k).testBit i = true ∧ a i = j then it i else 0) (k := k) hk (fun i _ hik => by
            simp only [tb i, uv_ne hik, decide_eq_true hik, Bool.and_true]) (by
            simp only [tb k]; simp)
          simp only [uv_eq rfl, h2, true_and] at e
          exact e
        rw [h3]
        generalize hx : d (s - 2 ^ k) = x at *
        refine ⟨va_up a k (x / 128), ?_⟩
        obtain ⟨v1, v2, v3⟩ := v
        unfold stp
        by_cases c1 : w ≤ x / 128
        · rw [if_pos c1]
          refine ⟨fun j hj => ?_, ?_⟩
          · rw [add]; have := g1 j hj; omega
          · rw [add]; omega
        · rw [if_neg c1]
          have m1 := hm (x / 128) (by omega)
          by_cases c2 : x % 128 + it k < mi (x / 128)
          · rw [if_pos c2]
            have e1 : (x + it k) / 128 = x / 128 := by omega
            have e2 : (x + it k) % 128 = x % 128 + it k := by omega
            rw [e1, e2]
            refine ⟨fun j hj => ?_, ?_⟩
            · rw [add]; have := g1 j hj; omega
            · rw [add, if_pos rfl]; omega
          · rw [if_neg c2]
            have e1 : (x / 128 + 1) * 128 / 128 = x / 128 + 1 := by omega
            have e2 : (x / 128 + 1) * 128 % 128 = 0 := by omega
            rw [e1, e2]
            refine ⟨fun j hj => ?_, Nat.zero_le _⟩
            rw [add]
            by_cases c3 : x / 128 = j
            · rw [if_pos c3, ← c3]; omega
            · have := g1 j (by omega); omega
def EC (it : Nat → Nat) (n : Nat) (mi : Nat → Nat) (w : Nat) : Prop := ∃ a : Nat → Nat, ∀ j, j < w → mi j ≤ as_ a it n j
theorem bs_ext {P Q : Nat → Bool} {n k : Nat} (hn : n ≤ 10) (hk : k < n) (h1 : P k = true) (h2 : ∀ i, i < n → Q i = (P i && decide (i ≠ k))) : bs P n - 2 ^ k = bs Q n ∧ (bs P n).testBit k = true ∧ 0 < bs P n := by
  have b1 : (bs P n).testBit k = true := by rw [bs_bit, decide_eq_true hk, h1]; rfl
  have l1 : bs P n < 1024 := Nat.lt_of_lt_of_le (bs_lt P n) (Nat.pow_le_pow_right (by decide) hn)
  refine ⟨?_, b1, Nat.lt_of_lt_of_le (Nat.two_pow_pos k) (xs_le b1)⟩
  apply Nat.eq_of_testBit_eq
  intro i
  rw [xs_tb l1 (by omega) b1, bs_bit, bs_bit]
  by_cases c : i < n
  · rw [h2 i c, decide_eq_true c]; rfl
  · rw [decide_eq_false c]; rfl
theorem DP_bed {it mi d : Nat → Nat} {n w L : Nat} (hn : n ≤ 10) (hm : ∀ j, j < w → 1 ≤ mi j ∧ mi j ≤ 99) (hD : DPc L it n mi w d) (a : Nat → Nat) (hso : ∀ i, i < n → L.testBit i = true → 1 ≤ i ∧ a (i - 1) ≤ a i) {j : Nat} (hj : j < w) (h0 : j * 128 ≤ d (bs (fun i => decide (a i < j)) n)) :
    ∀ k, k ≤ n → (j + 1) * 128 ≤ d (bs (fun i => decide (a i < j) || (decide (i < k) && decide (a i = j))) n) ∨ (sm (fun i => if a i = j then it i else 0) k < mi j ∧ j * 128 + sm (fun i => if a i = j then it i else 0) k ≤ d (bs (fun i => decide (a i < j) || (decide (i < k) && decide (a i = j))) n))
  | 0, _ => by
    have e : bs (fun i => decide (a i < j) || (decide (i < 0) && decide (a i = j))) n = bs (fun i => decide (a i < j)) n := bs_cong (fun i _ => by simp)
    rw [e]
    have := hm j hj
    exact Or.inr ⟨by rw [sm]; omega, by rw [sm]; omega⟩
  | k + 1, hk => by
    have ih := DP_bed hn hm hD a hso hj h0 k (by omega)
    have cn : ∀ k, cB L (bs (fun i => decide (a i < j) || (decide (i < k) && decide (a i = j))) n) = true := fun k => cB_bs hn (fun i hi h1 h2 => ⟨(hso i hi h2).1, cl_bed (hso i hi h2).1 (hso i hi h2).2 h1⟩)
    by_cases c : a k = j
    · obtain ⟨e1, e2, e3⟩ := bs_ext (P := fun i => decide (a i < j) || (decide (i < k + 1) && decide (a i = j))) (Q := fun i => decide (a i < j) || (decide (i < k) && decide (a i = j))) (n := n) (k := k) hn (by omega) (by simp [c]) (fun i hi => by
        by_cases c2 : i = k
        · subst c2; simp [c]
        · by_cases c3 : i < k
          · have : i < k + 1 := by omega
            simp [c3, this, c2]
          · have : ¬ i < k + 1 := by omega
            simp [c3, this, c2])
      have hlt := bs_lt (fun i => decide (a i < j) || (decide (i < k + 1) && decide (a i = j))) n
      have hlt2 := bs_lt (fun i => decide (a i < j) || (decide (i < k) && decide (a i = j))) n
      have h4 := (hD.2 _ e3 hlt (cn (k + 1))).1 k (by omega) e2 (by rw [e1]; exact cn k)
      rw [e1] at h4
      have v := DP_vd hm hD _ _ (Nat.le_refl _) hlt2 (cn k)
      have up := (stp_vd (v := it k) hm v).2
      rw [sm, if_pos c]
      generalize d (bs (fun i => decide (a i < j) || (decide (i < k) && decide (a i = j))) n) = y at *
      generalize d (bs (fun i => decide (a i < j) || (decide (i < k + 1) && decide (a i = j))) n) = z at *
      generalize sm (fun i => if a i = j then it i else 0) k = S at *
      rcases ih with h | ⟨h5, h6⟩
      · exact Or.inl (by omega)
      · have m1 := hm j hj
        have q1 : (j * 128 + S) / 128 = j := by omega
        have q2 : (j * 128 + S) % 128 = S := by omega
        have mono := stp_mono (v := it k) hm (x := j * 128 + S) ⟨by omega, fun _ => by rw [q1, q2]; exact h5, fun e => by omega⟩ v h6
        have e4 : stp mi w (j * 128 + S) (it k) = if S + it k < mi j then j * 128 + S + it k else (j + 1) * 128 := by
          unfold stp
          rw [q1, q2, if_neg (by omega)]
        rw [e4] at mono
        by_cases c5 : S + it k < mi j
        · rw [if_pos c5] at mono
          exact Or.inr ⟨c5, by omega⟩
        · rw [if_neg c5] at mono
          exact Or.inl (by omega)
    · have e : bs (fun i => decide (a i < j) || (decide (i < k + 1) && decide (a i = j))) n = bs (fun i => decide (a i < j) || (decide (i < k) && decide (a i = j))) n := bs_cong (fun i _ => by
        by_cases c2 : i = k
        · subst c2; simp [c]
        · by_cases c3 : i < k
          · have : i < k + 1 := by omega
            simp [c3, this]
          · have : ¬ i < k + 1 := by omega
            simp [c3, this])
      rw [e, sm, if_neg c, Nat.add_zero]; exact ih
theorem DP_beds {it mi d : Nat → Nat} {n w L : Nat} (hn : n ≤ 10) (hm : ∀ j, j < w → 1 ≤ mi j ∧ mi j ≤ 99) (hD : DPc L it n mi w d) (a : Nat → Nat) (hso : ∀ i, i < n → L.testBit i = true → 1 ≤ i ∧ a (i - 1) ≤ a i) (ha : ∀ j, j < w → mi j ≤ as_ a it n j) : ∀ j, j ≤ w → j * 128 ≤ d (bs (fun i => decide (a i < j)) n)
  | 0, _ => by omega
  | j + 1, hj => by
    have ih := DP_beds hn hm hD a hso ha j (by omega)
    have h := DP_bed hn hm hD a hso (j := j) (by omega) ih n (Nat.le_refl _)
    have e : bs (fun i => decide (a i < j) || (decide (i < n) && decide (a i = j))) n = bs (fun i => decide (a i < j + 1)) n := bs_cong (fun i hi => by
      by_cases c1 : a i < j
      · have : a i < j + 1 := by omega
        simp [c1, this]
      · by_cases c2 : a i = j
        · simp [c2, hi]
        · have : ¬ a i < j + 1 := by omega
          simp [c1, c2, this])
    rw [e] at h
    rcases h with h | ⟨h1, _⟩
    · exact h
    · have := ha j (by omega)
      unfold as_ at this
      omega
theorem DP_grow {it mi d : Nat → Nat} {n w L : Nat} (hn : n ≤ 10) (hm : ∀ j, j < w → 1 ≤ mi j ∧ mi j ≤ 99) (hD : DPc L it n mi w d) (P : Nat → Bool) (hP : ∀ i, i < n → P i = true → L.testBit i = true → 1 ≤ i ∧ P (i - 1) = true) (hL : ∀ i, i < n → L.testBit i = true → 1 ≤ i) : ∀ k, k ≤ n → d (bs P n) ≤ d (bs (fun i => P i || decide (i < k)) n)
  | 0, _ => by
    have e : bs (fun i => P i || decide (i < 0)) n = bs P n := bs_cong (fun i _ => by simp)
    rw [e]; exact Nat.le_refl _
  | k + 1, hk => by
    have ih := DP_grow hn hm hD P hP hL k (by omega)
    have cn : ∀ k, cB L (bs (fun i => P i || decide (i < k)) n) = true := fun k => cB_bs hn (fun i hi h1 h2 => by
      rw [Bool.or_eq_true, decide_eq_true_eq] at h1
      rcases h1 with h1 | h1
      · have h3 := hP i hi h1 h2
        exact ⟨h3.1, by rw [h3.2]; rfl⟩
      · exact ⟨hL i hi h2, by rw [Bool.or_eq_true, decide_eq_true_eq]; exact Or.inr (by omega)⟩)
    by_cases c : P k = true
    · have e : bs (fun i => P i || decide (i < k + 1)) n = bs (fun i => P i || decide (i < k)) n := bs_cong (fun i _ => by
        by_cases c2 : i = k
        · subst c2; simp [c]
        · by_cases c3 : i < k
          · have : i < k + 1 := by omega
            simp [c3, this]
          · have : ¬ i < k + 1 := by omega
            simp [c3, this])
      rw [e]; exact ih
    · obtain ⟨e1, e2, e3⟩ := bs_ext (P := fun i => P i || decide (i < k + 1)) (Q := fun i => P i || decide (i < k)) (n := n) (k := k) hn (by omega) (by simp) (fun i hi => by
        by_cases c2 : i = k
        · subst c2; simpa using c
        · by_cases c3 : i < k
          · have : i < k + 1 := by omega
            simp [c3, this, c2]
          · have : ¬ i < k + 1 := by omega
            simp [c3, this, c2])
      have hlt := bs_lt (fun i => P i || decide (i < k + 1)) n
      have hlt2 := bs_lt (fun i => P i || decide (i < k)) n
      have h4 := (hD.2 _ e3 hlt (cn (k + 1))).1 k (by omega) e2 (by rw [e1]; exact cn k)
      rw [e1] at h4
      have v := DP_vd hm hD _ _ (Nat.le_refl _) hlt2 (cn k)
      have up := (stp_vd (v := it k) hm v).2
      omega
theorem bs_all : ∀ n, bs (fun _ => true) n = 2 ^ n - 1
  | 0 => rfl
  | n + 1 => by
    rw [bs, bs_all n, if_pos rfl]
    have h := Nat.two_pow_add_eq_or_of_lt (i := n) (b := 2 ^ n - 1) (by have := Nat.two_pow_pos n; omega) 1
    rw [Nat.mul_one] at h
    rw [Nat.or_comm, ← h, Nat.pow_succ]
    have := Nat.two_pow_pos n
    omega
theorem cB_all {L n : Nat} (hn : n ≤ 10) (hL : ∀ i, i < n → L.testBit i = true → 1 ≤ i) : cB L (2 ^ n - 1) = true := by
  rw [← bs_all]
  exact cB_bs hn (fun i hi _ h => ⟨hL i hi h, rfl⟩)
/-! like things in order -/
theorem sm_two {f h : Nat → Nat} {k : Nat} (H : ∀ i, i ≠ k → i ≠ k + 1 → f i = h i) : ∀ {n : Nat}, k + 2 ≤ n → sm f n + (h k + h (k + 1)) = sm h n + (f k + f (k + 1))
  | 0, hk => by omega
  | n + 1, hk => by
    by_cases c : n = k + 1
    · subst c
      have e1 : sm f (k + 1 + 1) = sm f k + f k + f (k + 1) := rfl
      have e2 : sm h (k + 1 + 1) = sm h k + h k + h (k + 1) := rfl
      have e3 : sm f k = sm h k := sm_cong (fun i hi => H i (by omega) (by omega))
      omega
    · have e1 : sm f (n + 1) = sm f n + f n := rfl
      have e2 : sm h (n + 1) = sm h n + h n := rfl
      have e3 := H n (by omega) (by omega)
      have := sm_two H (n := n) (by omega)
      omega
def ml_ (a : Nat → Nat) (n : Nat) : Nat := sm (fun i => (n - i) * a i) n
theorem EC_step {it : Nat → Nat} {n k : Nat} {a : Nat → Nat} (hk : k + 1 < n) (hit : it k = it (k + 1)) (hlt : a (k + 1) < a k) : ∃ b : Nat → Nat, ml_ b n < ml_ a n ∧ ∀ j, as_ b it n j = as_ a it n j := by
  have e1 : va_up (va_up a k (a (k + 1))) (k + 1) (a k) k = a (k + 1) := by rw [uv_ne (by omega), uv_eq rfl]
  have e2 : va_up (va_up a k (a (k + 1))) (k + 1) (a k) (k + 1) = a k := uv_eq rfl
  have e3 : ∀ i, i ≠ k → i ≠ k + 1 → va_up (va_up a k (a (k + 1))) (k + 1) (a k) i = a i := fun i x y => by rw [uv_ne y, uv_ne x]
  generalize va_up (va_up a k (a (k + 1))) (k + 1) (a k) = b at e1 e2 e3
  refine ⟨b, ?_, fun j => ?_⟩
  · have h := sm_two (f := fun i => (n - i) * b i) (h := fun i => (n - i) * a i) (k := k) (fun i x y => by simp only [e3 i x y]) (n := n) (by omega)
    simp only [e1, e2] at h
    have hr : n - k = (n - (k + 1)) + 1 := by omega
    rw [hr, Nat.add_mul, Nat.add_mul, Nat.one_mul, Nat.one_mul] at h
    show sm (fun i => (n - i) * b i) n < sm (fun i => (n - i) * a i) n
    generalize sm (fun i => (n - i) * b i) n = A at *
    generalize sm (fun i => (n - i) * a i) n = B at *
    generalize (n - (k + 1)) * a k = C at *
    generalize (n - (k + 1)) * a (k + 1) = D at *
    omega
  · have h := sm_two (f := fun i => if b i = j then it i else 0) (h := fun i => if a i = j then it i else 0) (k := k) (fun i x y => by simp only [e3 i x y]) (n := n) (by omega)
    simp only [e1, e2, hit] at h
    show sm (fun i => if b i = j then it i else 0) n = sm (fun i => if a i = j then it i else 0) n
    omega
theorem EC_sort {it mi : Nat → Nat} {n w L : Nat} (hL : ∀ i, i < n → L.testBit i = true → 1 ≤ i ∧ it (i - 1) = it i) : ∀ (m : Nat) (a : Nat → Nat), ml_ a n ≤ m → (∀ j, j < w → mi j ≤ as_ a it n j) → ∃ a : Nat → Nat, (∀ j, j < w → mi j ≤ as_ a it n j) ∧ ∀ i, i < n → L.testBit i = true → 1 ≤ i ∧ a (i - 1) ≤ a i := by
  have key : ∀ (a : Nat → Nat), (∀ j, j < w → mi j ≤ as_ a it n j) → (∀ i, i < n → L.testBit i = true → 1 ≤ i ∧ a (i - 1) ≤ a i) ∨ ∃ b : Nat → Nat, ml_ b n < ml_ a n ∧ ∀ j, as_ b it n j = as_ a it n j := by
    intro a ha
    by_cases c : ∃ k, k + 1 < n ∧ L.testBit (k + 1) = true ∧ a (k + 1) < a k
    · obtain ⟨k, h1, h2, h3⟩ := c
      exact Or.inr (EC_step h1 (hL (k + 1) h1 h2).2 h3)
    · refine Or.inl (fun i hi hb => ?_)
      have h1 := (hL i hi hb).1
      have e : i - 1 + 1 = i := by omega
      exact ⟨h1, Nat.le_of_not_lt (fun h => c ⟨i - 1, by omega, by rw [e]; exact hb, by rw [e]; exact h⟩)⟩
  intro m
  induction m with
  | zero =>
    intro a hm ha
    rcases key a ha with h | ⟨b, h1, _⟩
    · exact ⟨a, ha, h⟩
    · omega
  | succ m ih =>
    intro a hm ha
    rcases key a ha with h | ⟨b, h1, h2⟩
    · exact ⟨a, ha, h⟩
    · exact ih b (by omega) (fun j hj => by rw [h2]; exact ha j hj)
theorem DP_iff {it mi d : Nat → Nat} {n w L : Nat} (hn : n ≤ 10) (hm : ∀ j, j < w → 1 ≤ mi j ∧ mi j ≤ 99) (hL : ∀ i, i < n → L.testBit i = true → 1 ≤ i ∧ it (i - 1) = it i) (hD : DPc L it n mi w d) : EC it n mi w ↔ w ≤ d (2 ^ n - 1) / 128 := by
  have p := Nat.two_pow_pos n
  constructor
  · rintro ⟨a0, ha0⟩
    obtain ⟨a, ha, hso⟩ := EC_sort (L := L) hL _ a0 (Nat.le_refl _) ha0
    have h1 := DP_beds hn hm hD a hso ha w (Nat.le_refl _)
    have h2 := DP_grow hn hm hD (fun i => decide (a i < w)) (fun i hi h1 h2 => ⟨(hso i hi h2).1, by
      have := (hso i hi h2).2
      rw [decide_eq_true_eq] at h1 ⊢
      omega⟩) (fun i hi h => (hL i hi h).1) n (Nat.le_refl _)
    have e : bs (fun i => decide (a i < w) || decide (i < n)) n = bs (fun _ => true) n := bs_cong (fun i hi => by simp [hi])
    rw [e, bs_all] at h2
    omega
  · intro h
    obtain ⟨a, g1, _⟩ := DP_sound hn hm hD _ (2 ^ n - 1) (Nat.le_refl _) (by omega) (cB_all hn (fun i hi h => (hL i hi h).1))
    refine ⟨a, fun j hj => Nat.le_trans (g1 j (by omega)) (sm_pt (fun i hi => ?_))⟩
    by_cases c : (2 ^ n - 1).testBit i = true ∧ a i = j
    · rw [if_pos c, if_pos c.2]; exact Nat.le_refl _
    · rw [if_neg c]; exact Nat.zero_le _
/-- all that the beds lack is no more than all that there is -/
theorem EC_sum {it mi : Nat → Nat} {n w : Nat} (h : EC it n mi w) : sm mi w ≤ sm it n := by
  obtain ⟨a, ha⟩ := h
  have h1 : sm mi w ≤ sm (as_ a it n) w := sm_pt (fun j hj => ha j hj)
  refine Nat.le_trans h1 ?_
  clear h1 ha
  induction n with
  | zero =>
    have : sm (as_ a it 0) w ≤ w * 0 := sm_le (fun k _ => Nat.le_refl _)
    omega
  | succ n ih =>
    have key : ∀ m, sm (as_ a it (n + 1)) m ≤ sm (as_ a it n) m + it n ∧ (m ≤ a n → sm (as_ a it (n + 1)) m = sm (as_ a it n) m) := by
      intro m
      induction m with
      | zero => exact ⟨by simp [sm], fun _ => rfl⟩
      | succ m ihm =>
        have e : as_ a it (n + 1) m = as_ a it n m + (if a n = m then it n else 0) := rfl
        rw [sm, sm, e]
        by_cases c : a n = m
        · rw [if_pos c]
          have := ihm.2 (by omega)
          exact ⟨by omega, fun h => by omega⟩
        · rw [if_neg c]
          exact ⟨by omega, fun h => by have := ihm.2 (by omega); omega⟩
    have := (key w).1
    rw [sm]; omega
/-! all parts of a set, one after the other -/
theorem land2 (a b : Nat) : (a &&& b) / 2 = (a / 2) &&& (b / 2) := by
  have := Nat.shiftRight_and_distrib (a := a) (b := b) (i := 1)
  simpa [Nat.shiftRight_eq_div_pow] using this
theorem land2m (a b : Nat) : (a &&& b) % 2 = (a % 2) * (b % 2) := by
  have h := Nat.and_mod_two_pow (a := a) (b := b) (n := 1)
  rw [Nat.pow_one] at h
  rw [h]
  rcases Nat.mod_two_eq_zero_or_one a with h1 | h1 <;> rcases Nat.mod_two_eq_zero_or_one b with h2 | h2 <;> rw [h1, h2] <;> rfl
theorem sub_next : ∀ (m o s t : Nat), o ≤ m → o &&& s = o → t &&& s = t → t < o → t ≤ (o - 1) &&& s
  | 0, o, s, t, h, _, _, h3 => by omega
  | m + 1, o, s, t, h, h1, h2, h3 => by
    have a1 := congrArg (fun z => z / 2) h1
    have a2 := congrArg (fun z => z % 2) h1
    have b1 := congrArg (fun z => z / 2) h2
    have b2 := congrArg (fun z => z % 2) h2
    simp only [land2, land2m] at a1 a2 b1 b2
    have c1 := land2 (o - 1) s
    have c2 := land2m (o - 1) s
    rcases Nat.mod_two_eq_zero_or_one o with e | e
    · have hlt : t / 2 < o / 2 := by omega
      have ih := sub_next m (o / 2) (s / 2) (t / 2) (by omega) a1 b1 hlt
      have e1 : (o - 1) / 2 = o / 2 - 1 := by omega
      have e2 : (o - 1) % 2 = 1 := by omega
      rw [e1] at c1
      rw [e2, Nat.one_mul] at c2
      have e3 : t % 2 ≤ s % 2 := by
        rcases Nat.mod_two_eq_zero_or_one t with x | x <;> rcases Nat.mod_two_eq_zero_or_one s with y | y <;> rw [x, y] at b2 <;> omega
      omega
    · have e1 : (o - 1) / 2 = o / 2 := by omega
      rw [e1, a1] at c1
      omega
theorem sub_land (x s : Nat) : (x &&& s) &&& s = x &&& s := by rw [Nat.and_assoc, Nat.and_self]
