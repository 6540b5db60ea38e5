theorem jp (f : Nat → Int64) (k : Nat) (v : Int64) (F : Ob → Option Ob) : ((some (sJ (sJ Z0 10 f) 10 (va_up (oJ (sJ Z0 10 f) 10) k v))).bind F) = F (sJ Z0 10 (va_up f k v)) := by rw [e_bd, sJ_sJ, oJ_self]
theorem tail_eq0 : pX11_tail (sJ Z0 10 (fun _ => (0 : Int64))) = (pX11_clears Mz).bind fun r45 => (pX11_init_l373 fu (0 : Int32) r45).bind fun r52 => some r52 := by
  unfold pX11_tail Mz jz
  rw [jp, jp, jp, jp, jp, jp, jp, jp, jp, jp, jp, jp, jp, jp, jp, jp, jp, jp, jp, jp, jp, jp]
theorem tail_eq : pX11_tail Z0 = (pX11_clears Mz).bind fun r45 => (pX11_init_l373 fu (0 : Int32) r45).bind fun r52 => some r52 := by
  rw [← tail_eq0]
  congr 1
  exact (sJ_selfJ Z0 10).symm
