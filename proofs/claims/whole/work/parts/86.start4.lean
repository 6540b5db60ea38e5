theorem RE_0 : RE 0 (hz 0) (hz 1) (hz 2) (hz 3) (hz 4) (hz 5) (hz 9) (hz 10) (hz 12) (fun j => hz (14 + j)) (fun k => hz (6 + k)) (fun k => hz (22 + 3 * k)) (fun k => hz (23 + 3 * k)) (fun k => hz (24 + 3 * k)) mzz (sI Z0 1 1) := by
  have z0 : gz 0 = 0 := gz_0 (by omega)
  have z1 : gz 1 = 0 := gz_0 (by omega)
  have z2 : gz 2 = 0 := gz_0 (by omega)
  have z3 : gz 3 = 0 := gz_0 (by omega)
  have z4 : gz 4 = 9 := if_pos rfl
  have s0 : sm (fun t => gz (185 + t)) 8 = 0 := by
    have := sm_le (f := fun t => gz (185 + t)) (c := 0) (n := 8) (fun t ht => by show gz (185 + t) ≤ 0; rw [gz_0 (by omega)]; exact Nat.le_refl _)
    omega
  have aw : AW Z0 := fun j hj => rfl
  refine ⟨gz, fun _ => 0, ⟨⟨by omega, by omega, by omega, by omega, by omega, fun i hi => by omega, fun i hi => by omega, fun i hi => by omega, fun i hi => by omega⟩, ⟨fun p hp => by rw [gz_0 (by omega)]; omega, fun p hp k hk => by rw [gz_0 (by omega)] at hk; omega, fun p hp => by omega, by rw [s0]; omega, fun t _ h8 => gz_0 (by omega), fun b hb => by rw [gz_0 (by omega)]; omega⟩, by rw [gz_0 (by omega)]; omega, mzz_6, ⟨by rw [z0]; rfl, by rw [z1]; rfl, by rw [z2]; rfl, by rw [z3]; rfl, by rw [z4]; rfl, fun i hi => by omega, fun i hi => by omega, fun i hi => by omega, fun i hi => by omega, fun i hi => by omega, fun i hi => by omega, fun i hi => by omega⟩, ⟨fun p hp k hk => by rw [gz_0 (by omega)] at hk; omega, fun p hp => by rw [gz_0 (by omega)]; rfl, fun p hp => by omega, fun t ht => by rw [gz_0 (by omega)]; rfl, fun t ht => by rw [gz_0 (by omega)]; rfl, fun t ht => by rw [gz_0 (by omega)]; rfl, fun t ht => by rw [gz_0 (by omega)]; rfl, by rw [s0]; rfl, by rw [gz_0 (by omega)]; rfl, by rw [gz_0 (by omega)]; rfl, by rw [gz_0 (by omega)]; rfl, by rw [gz_0 (by omega)]; rfl⟩, ⟨fun i hi => by omega, fun i hi => by omega, fun i hi => by omega⟩, fun j hj => gz_0 (by omega)⟩, ⟨fun _ => 0, 0, ⟨fun _ => l_0, fun _ => (show (0 : Int32) &&& nI 255 = nI 0 by decide), fun _ => (show 0 < 256 by omega)⟩, by omega, l_0, l_0⟩, ⟨0, 0, by omega, by omega, l_0, l_0, l_0, fun j hj => by omega⟩, ⟨aw, Or.inl ⟨gz_0 (by omega), rfl⟩⟩, aw, ⟨rfl, Or.inl ⟨l_0, m1_l⟩, Or.inl ⟨l_0, m1_l⟩, Or.inl ⟨l_0, m1_l⟩⟩, Or.inl ⟨l_0, l_0⟩, ⟨(fun _ => 0, 0), by show 0 ≤ 79; omega, ⟨l_0, fun i hi => absurd hi (Nat.not_lt_zero i)⟩, l_0, fun i hi => absurd hi (Nat.not_lt_zero i)⟩, ⟨jz_w, gz, rfl⟩, fun k hk => ?_, l_1⟩
  rcases (by omega : k = 0 ∨ k = 1) with rfl | rfl
  · exact ⟨aw, Or.inl ⟨l_0, l_0⟩⟩
  · exact ⟨aw, Or.inl ⟨l_0, l_0⟩⟩
