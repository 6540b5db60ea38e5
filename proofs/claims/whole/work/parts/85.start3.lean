def gz : Nat → Nat := fun k => if k = 4 then 9 else 0
theorem hz0 : va_up (cz (fun _ => 0) 121) 4 9 = gz := funext fun k => by
  unfold gz cz
  rw [up_app]
  by_cases e : k = 4
  · rw [if_pos e, if_pos e]
  · rw [if_neg e, if_neg e]; split <;> rfl
def mzz : Ob := sA (sA Mz 7 (Nf gz)) 6 (cpn (Nf gz) (fun _ => 0) 0 0 121)
theorem mzz_eq : pX11_tail Z0 = some mzz := by
  have c := r_clears (M := Mz) (h := fun _ => 0) rfl
  rw [hz0] at c
  have l := l373 (sA Mz 7 (Nf gz)) (oA Mz 6) fu 0 (by omega) (by rw [fu_eq]; omega)
  rw [cpn_0, show sA (sA Mz 7 (Nf gz)) 6 (oA Mz 6) = sA Mz 7 (Nf gz) from sA_self (sA Mz 7 (Nf gz)) 6] at l
  have l' : pX11_init_l373 fu (0 : Int32) (sA Mz 7 (Nf gz)) = some mzz := l
  rw [tail_eq, c, e_bd, l', e_bd]
theorem mzz_6 : oA mzz 6 = Nf gz := funext fun k => by
  show cpn (Nf gz) (fun _ => 0) 0 0 121 k = Nf gz k
  by_cases c : k < 121
  · rw [cpn_in (by omega) (by omega), Nat.zero_add, Nat.sub_zero]
  · rw [cpn_out (by omega), Nf_app]
    unfold gz
    rw [if_neg (by omega)]; rfl
theorem gz_0 {k : Nat} (h : k ≠ 4) : gz k = 0 := if_neg h
theorem m1_l : (-1 : Int32) = -nI 1 := by decide
