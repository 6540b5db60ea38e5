/-! the class's pile of truths -/
def pl : List Bool → Nat
  | [] => 0
  | b :: r => 2 * pl r + b01 b
theorem pl_lt : ∀ st : List Bool, pl st < 2 ^ st.length
  | [] => by show 0 < 1; omega
  | b :: r => by
    have := pl_lt r
    have := b01_le b
    show 2 * pl r + b01 b < 2 ^ (r.length + 1)
    rw [Nat.pow_succ]
    omega
theorem pl_20 {st : List Bool} (h : st.length ≤ 20) : pl st < 1048577 := by
  have := pl_lt st
  have h2 : 2 ^ st.length ≤ 2 ^ 20 := Nat.pow_le_pow_right (by omega) h
  have : (2 : Nat) ^ 20 = 1048576 := rfl
  omega
theorem px_not (m : Nat) (b : Bool) : nI (2 * m + b01 b) ^^^ nI 1 = nI (2 * m + b01 (!b)) := by
  rw [e_xor]
  congr 1
  have h1 := Nat.xor_div_two (a := 2 * m + b01 b) (b := 1)
  have h2 := Nat.xor_mod_two_eq_one (a := 2 * m + b01 b) (b := 1)
  rw [show (1 : Nat) / 2 = 0 from rfl, Nat.xor_zero] at h1
  cases b with
  | true =>
    rw [show b01 (!true) = 0 from rfl]
    rw [b01_t] at h1 h2 ⊢
    have : ¬ (2 * m + 1 ^^^ 1) % 2 = 1 := fun h => (h2.mp h) ⟨fun _ => rfl, fun _ => by omega⟩
    omega
  | false =>
    rw [show b01 (!false) = 1 from rfl]
    rw [b01_f] at h1 h2 ⊢
    have : (2 * m + 0 ^^^ 1) % 2 = 1 := h2.mpr (fun h => by have := h.mpr rfl; omega)
    omega
theorem px_or (m : Nat) (c b : Bool) : nI (2 * m + b01 c) ||| nI (b01 b) = nI (2 * m + b01 (c || b)) := by
  rw [e_or]
  congr 1
  cases b with
  | false => rw [b01_f, Nat.or_zero, Bool.or_false]
  | true =>
    rw [b01_t, Bool.or_true, b01_t]
    have h1 := Nat.or_div_two (a := 2 * m + b01 c) (b := 1)
    have h2 := (Nat.or_mod_two_eq_one (a := 2 * m + b01 c) (b := 1)).mpr (Or.inr rfl)
    have := b01_le c
    rw [show (1 : Nat) / 2 = 0 from rfl, Nat.or_zero] at h1
    omega
theorem px_and (m : Nat) (c b : Bool) (hm : m < 1000000000) : nI (2 * m + b01 c) &&& (nI (b01 b) ||| (-2 : Int32)) = nI (2 * m + b01 (c && b)) := by
  have := b01_le c
  cases b with
  | true =>
    rw [b01_t, Bool.and_true, show nI 1 ||| (-2 : Int32) = nI 4294967295 by decide, e_and]
    congr 1
    rw [show (4294967295 : Nat) = 2 ^ 32 - 1 from rfl, Nat.and_two_pow_sub_one_eq_mod]
    omega
  | false =>
    rw [b01_f, Bool.and_false, b01_f, show nI 0 ||| (-2 : Int32) = nI 4294967294 by decide, e_and]
    congr 1
    have h1 := Nat.and_div_two (a := 2 * m + b01 c) (b := 4294967294)
    have h2 : ¬ (2 * m + b01 c &&& 4294967294) % 2 = 1 := fun h => by
      have := (Nat.and_mod_two_eq_one.mp h).2
      omega
    rw [show (4294967294 : Nat) / 2 = 2 ^ 31 - 1 from rfl, Nat.and_two_pow_sub_one_eq_mod] at h1
    omega
theorem px_push (m : Nat) (b : Bool) (hm : m < 1048577) : (nI m <<< (nI 1 &&& nI 31)) ||| nI (b01 b) = nI (2 * m + b01 b) := by
  rw [pk_shlN _ 1 (e_cnt 1 (by decide)) (by omega), show m * 2 ^ 1 = 2 * m + b01 false by rw [b01_f]; omega, px_or, Bool.false_or]
theorem px_shr (m : Nat) (b : Bool) (hm : m < 1000000000) : nI (2 * m + b01 b) >>> (nI 1 &&& nI 31) = nI m := by
  have := b01_le b
  rw [e_shr (by omega) (by decide), show (2 * m + b01 b) / 2 ^ 1 = m by omega]
theorem px_low (m : Nat) (b : Bool) (hm : m < 1000000000) : nI (2 * m + b01 b) &&& nI 1 = nI (b01 b) := by
  have := b01_le b
  rw [e_and1 (by omega), show (2 * m + b01 b) % 2 = b01 b by omega]
