theorem V_iald {cc : ByteArray} {own : String} {fr lo nL : Nat} {G : Wc} {Γ : Cx} {us : List (Nat × Ob)} {pc : Nat} {L : List (Nat × Value)} {st : List Value} {u k n a : Nat} {S : Ob} {f : Nat → Int32} {i : Int32} (x j : Nat) (hu : us[x]? = some (u, S)) (hk : kd u = k) (hk12 : k < 12) (hc : (uc G u k S)[j]? = some (a, .inl (wT G 0, n, .inl f))) (hin : inB i n = true) (d : decode cc pc = .ok (.iaload, 1)) (kk : V cc own fr lo nL G Γ us (pc + 1) L (.int (f i.toNatClampNeg) :: st)) : V cc own fr lo nL G Γ us pc L (.int i :: .ref a :: st) := by
  intro ok hn H locs ls hP hS hl
  obtain ⟨q0, hq⟩ := allc_get (kd_lt hk hk12) hk (ov_get hn hu) hc
  exact va_iald ok.1 ok.2.1 ok.2.2.2.2.2.2.2.2.1 hP q0 0 hq rfl (inB_in hin) d (kk ok hn H locs ls hP hS hl)
theorem V_bald {cc : ByteArray} {own : String} {fr lo nL : Nat} {G : Wc} {Γ : Cx} {us : List (Nat × Ob)} {pc : Nat} {L : List (Nat × Value)} {st : List Value} {u k n a : Nat} {S : Ob} {f : Nat → Int32} {i : Int32} (x j : Nat) (hu : us[x]? = some (u, S)) (hk : kd u = k) (hk12 : k < 12) (hc : (uc G u k S)[j]? = some (a, .inl (wT G 2, n, .inl f))) (hin : inB i n = true) (d : decode cc pc = .ok (.baload, 1)) (kk : V cc own fr lo nL G Γ us (pc + 1) L (.int (f i.toNatClampNeg) :: st)) : V cc own fr lo nL G Γ us pc L (.int i :: .ref a :: st) := by
  intro ok hn H locs ls hP hS hl
  obtain ⟨q0, hq⟩ := allc_get (kd_lt hk hk12) hk (ov_get hn hu) hc
  exact va_bald ok.1 ok.2.1 ok.2.2.2.2.2.2.2.2.1 hP q0 2 hq rfl (inB_in hin) d (kk ok hn H locs ls hP hS hl)
theorem V_zald {cc : ByteArray} {own : String} {fr lo nL : Nat} {G : Wc} {Γ : Cx} {us : List (Nat × Ob)} {pc : Nat} {L : List (Nat × Value)} {st : List Value} {u k n a : Nat} {S : Ob} {f : Nat → Int32} {i : Int32} (x j : Nat) (hu : us[x]? = some (u, S)) (hk : kd u = k) (hk12 : k < 12) (hc : (uc G u k S)[j]? = some (a, .inl (wT G 3, n, .inl f))) (hin : inB i n = true) (d : decode cc pc = .ok (.baload, 1)) (kk : V cc own fr lo nL G Γ us (pc + 1) L (.int (f i.toNatClampNeg) :: st)) : V cc own fr lo nL G Γ us pc L (.int i :: .ref a :: st) := by
  intro ok hn H locs ls hP hS hl
  obtain ⟨q0, hq⟩ := allc_get (kd_lt hk hk12) hk (ov_get hn hu) hc
  exact va_zald ok.1 ok.2.1 ok.2.2.2.2.2.2.2.2.1 hP q0 3 hq rfl (inB_in hin) d (kk ok hn H locs ls hP hS hl)
theorem V_lald {cc : ByteArray} {own : String} {fr lo nL : Nat} {G : Wc} {Γ : Cx} {us : List (Nat × Ob)} {pc : Nat} {L : List (Nat × Value)} {st : List Value} {u k n a : Nat} {S : Ob} {f : Nat → Int64} {i : Int32} (x j : Nat) (hu : us[x]? = some (u, S)) (hk : kd u = k) (hk12 : k < 12) (hc : (uc G u k S)[j]? = some (a, .inl (wT G 1, n, .inr (.inl f)))) (hin : inB i n = true) (d : decode cc pc = .ok (.laload, 1)) (kk : V cc own fr lo nL G Γ us (pc + 1) L (.long (f i.toNatClampNeg) :: st)) : V cc own fr lo nL G Γ us pc L (.int i :: .ref a :: st) := by
  intro ok hn H locs ls hP hS hl
  obtain ⟨q0, hq⟩ := allc_get (kd_lt hk hk12) hk (ov_get hn hu) hc
  exact va_lald ok.1 ok.2.1 ok.2.2.2.2.2.2.2.2.1 hP q0 1 hq rfl (inB_in hin) d (kk ok hn H locs ls hP hS hl)
theorem V_wald {cc : ByteArray} {own : String} {fr lo nL : Nat} {G : Wc} {Γ : Cx} {us : List (Nat × Ob)} {pc : Nat} {L : List (Nat × Value)} {st : List Value} {u k n a : Nat} {S : Ob} {f : Nat → Option Nat} {i : Int32} (x j : Nat) (hu : us[x]? = some (u, S)) (hk : kd u = k) (hk12 : k < 12) (hc : (uc G u k S)[j]? = some (a, .inl (wT G 4, n, .inr (.inr (.inr (.inr (fun j => (f j).map (wE G)))))))) (hin : inB i n = true) (d : decode cc pc = .ok (.aaload, 1)) (kk : V cc own fr lo nL G Γ us (pc + 1) L (va_re (wE G) (f i.toNatClampNeg) :: st)) : V cc own fr lo nL G Γ us pc L (.int i :: .ref a :: st) := by
  intro ok hn H locs ls hP hS hl
  obtain ⟨q0, hq⟩ := allc_get (kd_lt hk hk12) hk (ov_get hn hu) hc
  exact va_aldq ok.1 ok.2.1 ok.2.2.2.2.2.2.2.2.1 hP q0 4 hq rfl (inB_in hin) d (kk ok hn H locs ls hP hS hl)
theorem V_sald {cc : ByteArray} {own : String} {fr lo nL : Nat} {G : Wc} {Γ : Cx} {us : List (Nat × Ob)} {pc : Nat} {L : List (Nat × Value)} {st : List Value} {u k n a : Nat} {S : Ob} {f : Nat → Nat} {i : Int32} (x j : Nat) (hu : us[x]? = some (u, S)) (hk : kd u = k) (hk12 : k < 12) (hc : (uc G u k S)[j]? = some (a, .inl (wT G 5, n, .inr (.inr (.inr (.inr (fun j => some (f j)))))))) (hin : inB i n = true) (d : decode cc pc = .ok (.aaload, 1)) (kk : V cc own fr lo nL G Γ us (pc + 1) L (.ref (f i.toNatClampNeg) :: st)) : V cc own fr lo nL G Γ us pc L (.int i :: .ref a :: st) := by
  intro ok hn H locs ls hP hS hl
  obtain ⟨q0, hq⟩ := allc_get (kd_lt hk hk12) hk (ov_get hn hu) hc
  exact va_aldq ok.1 ok.2.1 ok.2.2.2.2.2.2.2.2.1 hP q0 5 hq rfl (inB_in hin) d (kk ok hn H locs ls hP hS hl)
theorem V_mald {cc : ByteArray} {own : String} {fr lo nL : Nat} {G : Wc} {Γ : Cx} {us : List (Nat × Ob)} {pc : Nat} {L : List (Nat × Value)} {st : List Value} {u k n a : Nat} {S : Ob} {f : Nat → Nat} {i : Int32} (x j : Nat) (hu : us[x]? = some (u, S)) (hk : kd u = k) (hk12 : k < 12) (hc : (uc G u k S)[j]? = some (a, .inl (wT G 6, n, .inr (.inr (.inr (.inr (fun j => some (f j)))))))) (hin : inB i n = true) (d : decode cc pc = .ok (.aaload, 1)) (kk : V cc own fr lo nL G Γ us (pc + 1) L (.ref (f i.toNatClampNeg) :: st)) : V cc own fr lo nL G Γ us pc L (.int i :: .ref a :: st) := by
  intro ok hn H locs ls hP hS hl
  obtain ⟨q0, hq⟩ := allc_get (kd_lt hk hk12) hk (ov_get hn hu) hc
  exact va_aldq ok.1 ok.2.1 ok.2.2.2.2.2.2.2.2.1 hP q0 6 hq rfl (inB_in hin) d (kk ok hn H locs ls hP hS hl)
theorem V_alen {cc : ByteArray} {own : String} {fr lo nL : Nat} {G : Wc} {Γ : Cx} {us : List (Nat × Ob)} {pc : Nat} {L : List (Nat × Value)} {st : List Value} {u k a t0 n : Nat} {S : Ob} {x : (Nat → Int32) ⊕ (Nat → Int64) ⊕ (Nat → UInt32) ⊕ (Nat → UInt64) ⊕ (Nat → Option Nat)} {ty : FieldType} (v : Int32) (z j : Nat) (hu : us[z]? = some (u, S)) (hk : kd u = k) (hk12 : k < 12) (hc : (uc G u k S)[j]? = some (a, .inl (wT G t0, n, x))) (ht : (wTys G)[t0]? = some (wT G t0, ty)) (hv : Int32.ofNat n = v) (d : decode cc pc = .ok (.arraylength, 1)) (kk : V cc own fr lo nL G Γ us (pc + 1) L (.int v :: st)) : V cc own fr lo nL G Γ us pc L (.ref a :: st) := by
  intro ok hn H locs ls hP hS hl
  obtain ⟨q0, hq⟩ := allc_get (kd_lt hk hk12) hk (ov_get hn hu) hc
  exact va_alen ok.1 ok.2.1 ok.2.2.2.2.2.2.2.2.1 hP q0 t0 hq ht hv d (kk ok hn H locs ls hP hS hl)
theorem V_iast {cc : ByteArray} {own : String} {fr lo nL : Nat} {G : Wc} {Γ : Cx} {us : List (Nat × Ob)} {pc : Nat} {L : List (Nat × Value)} {st : List Value} {us1 : List (Nat × Ob)} {u k n a : Nat} {S S1 : Ob} {f : Nat → Int32} {i : Int32} {v : Int32} (x j : Nat) (hu : us[x]? = some (u, S)) (hk : kd u = k) (hk12 : k < 12) (hc : (uc G u k S)[j]? = some (a, .inl (wT G 0, n, .inl f))) (hin : inB i n = true) (hnew : uc G u k S1 = (uc G u k S).set j (a, .inl (wT G 0, n, .inl (va_up f i.toNatClampNeg v)))) (hus : us.set x (u, S1) = us1) (d : decode cc pc = .ok (.iastore, 1)) (kk : V cc own fr lo nL G Γ us1 (pc + 1) L st) : V cc own fr lo nL G Γ us pc L (.int v :: .int i :: .ref a :: st) := by
  intro ok hn H locs ls hP hS hl
  obtain ⟨q0, hq, hset⟩ := allc_set (kd_lt hk hk12) hk (ov_get hn hu) hc
  have hD := ok.2.2.2.2.2.2.2.2.2.2.2.1 (ov Γ.2.2.2 us)
  refine va_iast ok.1 ok.2.1 ok.2.2.2.2.2.2.2.2.1 hP hD hS q0 0 hq rfl (inB_in hin) d (fun H1 locs1 hP1 _ hS1 => ?_)
  subst hus
  refine kk ok (nd_set hn hu) H1 locs1 ls ?_ hS1 hl
  rw [ov_set hn hu, hset S1 _ hnew]
  exact hP1
theorem V_bast {cc : ByteArray} {own : String} {fr lo nL : Nat} {G : Wc} {Γ : Cx} {us : List (Nat × Ob)} {pc : Nat} {L : List (Nat × Value)} {st : List Value} {us1 : List (Nat × Ob)} {u k n a : Nat} {S S1 : Ob} {f : Nat → Int32} {i : Int32} {v : Int32} (x j : Nat) (hu : us[x]? = some (u, S)) (hk : kd u = k) (hk12 : k < 12) (hc : (uc G u k S)[j]? = some (a, .inl (wT G 2, n, .inl f))) (hin : inB i n = true) (hnew : uc G u k S1 = (uc G u k S).set j (a, .inl (wT G 2, n, .inl (va_up f i.toNatClampNeg v.toInt8.toInt32)))) (hus : us.set x (u, S1) = us1) (d : decode cc pc = .ok (.bastore, 1)) (kk : V cc own fr lo nL G Γ us1 (pc + 1) L st) : V cc own fr lo nL G Γ us pc L (.int v :: .int i :: .ref a :: st) := by
  intro ok hn H locs ls hP hS hl
  obtain ⟨q0, hq, hset⟩ := allc_set (kd_lt hk hk12) hk (ov_get hn hu) hc
  have hD := ok.2.2.2.2.2.2.2.2.2.2.2.1 (ov Γ.2.2.2 us)
  refine va_bast ok.1 ok.2.1 ok.2.2.2.2.2.2.2.2.1 hP hD hS q0 2 hq rfl (inB_in hin) d (fun H1 locs1 hP1 _ hS1 => ?_)
  subst hus
  refine kk ok (nd_set hn hu) H1 locs1 ls ?_ hS1 hl
  rw [ov_set hn hu, hset S1 _ hnew]
  rw [← vp_nar_byte]; exact hP1
theorem V_zast {cc : ByteArray} {own : String} {fr lo nL : Nat} {G : Wc} {Γ : Cx} {us : List (Nat × Ob)} {pc : Nat} {L : List (Nat × Value)} {st : List Value} {us1 : List (Nat × Ob)} {u k n a : Nat} {S S1 : Ob} {f : Nat → Int32} {i : Int32} {v : Int32} (x j : Nat) (hu : us[x]? = some (u, S)) (hk : kd u = k) (hk12 : k < 12) (hc : (uc G u k S)[j]? = some (a, .inl (wT G 3, n, .inl f))) (hin : inB i n = true) (hz : z01 v = true) (hnew : uc G u k S1 = (uc G u k S).set j (a, .inl (wT G 3, n, .inl (va_up f i.toNatClampNeg v)))) (hus : us.set x (u, S1) = us1) (d : decode cc pc = .ok (.bastore, 1)) (kk : V cc own fr lo nL G Γ us1 (pc + 1) L st) : V cc own fr lo nL G Γ us pc L (.int v :: .int i :: .ref a :: st) := by
  intro ok hn H locs ls hP hS hl
  obtain ⟨q0, hq, hset⟩ := allc_set (kd_lt hk hk12) hk (ov_get hn hu) hc
  have hD := ok.2.2.2.2.2.2.2.2.2.2.2.1 (ov Γ.2.2.2 us)
  refine va_zast ok.1 ok.2.1 ok.2.2.2.2.2.2.2.2.1 hP hD hS q0 3 hq rfl (inB_in hin) d (fun H1 locs1 hP1 _ hS1 => ?_)
  subst hus
  refine kk ok (nd_set hn hu) H1 locs1 ls ?_ hS1 hl
  rw [ov_set hn hu, hset S1 _ hnew]
  rw [show vp_nar .boolean v = v by unfold vp_nar; rw [z01_nar hz]] at hP1; exact hP1
theorem V_last {cc : ByteArray} {own : String} {fr lo nL : Nat} {G : Wc} {Γ : Cx} {us : List (Nat × Ob)} {pc : Nat} {L : List (Nat × Value)} {st : List Value} {us1 : List (Nat × Ob)} {u k n a : Nat} {S S1 : Ob} {f : Nat → Int64} {i : Int32} {v : Int64} (x j : Nat) (hu : us[x]? = some (u, S)) (hk : kd u = k) (hk12 : k < 12) (hc : (uc G u k S)[j]? = some (a, .inl (wT G 1, n, .inr (.inl f)))) (hin : inB i n = true) (hnew : uc G u k S1 = (uc G u k S).set j (a, .inl (wT G 1, n, .inr (.inl (va_up f i.toNatClampNeg v))))) (hus : us.set x (u, S1) = us1) (d : decode cc pc = .ok (.lastore, 1)) (kk : V cc own fr lo nL G Γ us1 (pc + 1) L st) : V cc own fr lo nL G Γ us pc L (.long v :: .int i :: .ref a :: st) := by
  intro ok hn H locs ls hP hS hl
  obtain ⟨q0, hq, hset⟩ := allc_set (kd_lt hk hk12) hk (ov_get hn hu) hc
  have hD := ok.2.2.2.2.2.2.2.2.2.2.2.1 (ov Γ.2.2.2 us)
  refine va_last ok.1 ok.2.1 ok.2.2.2.2.2.2.2.2.1 hP hD hS q0 1 hq rfl (inB_in hin) d (fun H1 locs1 hP1 _ hS1 => ?_)
  subst hus
  refine kk ok (nd_set hn hu) H1 locs1 ls ?_ hS1 hl
  rw [ov_set hn hu, hset S1 _ hnew]
  exact hP1
theorem V_gete {cc : ByteArray} {own : String} {fr lo nL : Nat} {G : Wc} {Γ : Cx} {us : List (Nat × Ob)} {pc : Nat} {L : List (Nat × Value)} {st : List Value} {index : Nat} (e : Nat) (nm : String) (he : e < 22) (hnm : wNames.getD e "" = nm) (hw : Cond.fieldLink own index "CombedOut$Word" nm "LCombedOut$Word;" ∈ gw) (d : decode cc pc = .ok (.getstatic index, 3)) (kk : V cc own fr lo nL G Γ us (pc + 3) L (va_re (wE G) (some e) :: st)) : V cc own fr lo nL G Γ us pc L st := by
  intro ok hn H locs ls hP hS hl
  subst hnm
  exact va_gets ok.1 ok.2.1 ((ok.2.2.2.2.2.2.2.2.2.2.1.1.1 e he).1) hS ok.2.2.2.1 (ok.2.2.2.2.1 _ hw) (fun x hx => hx) d (kk ok hn H locs ls hP hS hl)
theorem V_call {cc : ByteArray} {own : String} {fr lo nL : Nat} {G : Wc} {Γ : Cx} {us : List (Nat × Ob)} {pc : Nat} {L : List (Nat × Value)} {st : List Value} {us1 cu cu1 : List (Nat × Ob)} {C : String} {y : MethodName} {bytes : ByteArray} {maxL fr1 lo1 n index u0 k0 : Nat} {ret : Option FieldType} {As rest : List Value} {r : Option Value} {S0 : Ob} {q : vw_C} {fs : List Value} (is : List Nat) (x : Nat)
    (hM : Cn y bytes maxL ret fr1 lo1 G (.ref (wA G u0 0) :: As) cu cu1 r) (hsel : is.map (fun i => us[i]?) = cu.map some) (hids : cu1.map (fun q => q.1) = cu.map (fun q => q.1)) (hnd : va_nd is = true) (hus : putL us is cu1 = us1)
    (hu : us[x]? = some (u0, S0)) (hk : kd u0 = k0) (hk12 : k0 < 12) (hcell : (uc G u0 k0 S0)[0]? = some (wA G u0 0, .inr (k0, fs))) (hcl : vwCl[k0]? = some q) (hC : q.1 = C)
    (hw : Cond.methodLink own index y ∈ gw ∧ Cond.instanceMethod y ∈ gw ∧ Cond.selects C y y ∈ gw ∧ Cond.initialized C ∈ gw ∧ Cond.code y bytes maxL ret ∈ gw)
    (hd : y.cls = C ∧ y.cls ≠ "java/lang/invoke/MethodHandle" ∧ y.cls ≠ "java/lang/invoke/VarHandle" ∧ (parseMethodDescriptor y.desc).map (fun d => d.parameters.length) = some n)
    (hfr : fr1 + 1 ≤ fr) (hlo : 8 + (maxL + 11) + lo1 ≤ lo) (hAs : As.length = n) (hst : st = As.reverse ++ .ref (wA G u0 0) :: rest) (hrm : (rest.map fun v => v.category).sum ≤ 8) (d : decode cc pc = .ok (.invokevirtual index, 3))
    (kk : V cc own fr lo nL G Γ us1 (pc + 3) L (r.toList ++ rest)) : V cc own fr lo nL G Γ us pc L st := by
  intro ok hn H locs ls hP hS hl
  subst hus
  have ok' := ok
  obtain ⟨hx, hb, hml, hown, hts, hlk, hRm, hcs, hK, hNw, hst0, hD, hz, hL⟩ := ok'
  obtain ⟨n1, e1⟩ := ov_put (h := Γ.2.2.2) is hn (nd_sub hn is hnd hsel) hsel hids
  have hcu : ∀ q ∈ cu, ov Γ.2.2.2 us q.1 = q.2 := by
    intro q hq
    have h3 : (some q) ∈ is.map (fun i => us[i]?) := by rw [hsel]; exact List.mem_map_of_mem hq
    obtain ⟨j, hj, hj2⟩ := List.mem_map.mp h3
    exact ov_at hn (List.mem_of_getElem? hj2)
  have hMet := hM (nd_sub hn is hnd hsel) (ov Γ.2.2.2 us) hcu
  rw [← hL] at hMet
  have hgood : GoodIn (Cond.code y bytes maxL ret :: gw) (wsV own index C y (Cond.code y bytes maxL ret :: gw)) := by
    intro w hw'
    have hmem : w ∈ gw := by
      rcases List.mem_append.mp hw' with h | h
      · simp only [List.mem_cons, List.not_mem_nil, or_false] at h
        rcases h with rfl | rfl | rfl | rfl
        · exact hw.1
        · exact hw.2.1
        · exact hw.2.2.1
        · exact hw.2.2.2.1
      · rcases List.mem_cons.mp h with rfl | h
        · exact hw.2.2.2.2
        · exact h
    exact ⟨List.mem_cons_of_mem _ hmem, good_of_word (gw_good hmem)⟩
  have hts' : ∀ w ∈ Cond.code y bytes maxL ret :: gw, w.before Γ.2.1.2.1 Γ.1.2.2.2.2 = true := by
    intro w hw'
    rcases List.mem_cons.mp hw' with rfl | h
    · exact hts _ hw.2.2.2.2
    · exact hts _ h
  have cw : CallW Γ.1.2.2.2.1 Γ.1.2.2.2.2 Γ.2.1.2.1 own C index y bytes maxL ret (Cond.code y bytes maxL ret :: gw) (rmOf fr1 lo1) 0 0 n := cwV n hts' hgood rfl rfl rfl hd ⟨Nat.le_trans hfr hRm.1, Nat.le_trans hlo hRm.2⟩
  obtain ⟨q0, hq⟩ := allc_get (kd_lt hk hk12) hk (ov_get hn hu) hcell
  have hpre : PreV Γ.1.2.2.2.2 H C (wA G u0 0) (va_Pc (.ref (wA G u0 0) :: As) (Wd G (ov Γ.2.2.2 us))) As := by
    refine ⟨fun a U g mk z => ⟨z.1, z.2.1, va_K.moved (Vm.Alike.refl U.vm) z.2.2.1, nwAll.same (u := U) rfl z.2.2.2.1, stF.moved (Vm.Alike.refl U.vm) z.2.2.2.2.1, z.2.2.2.2.2⟩, ?_, fun U hU hW => ⟨rfl, by rw [hU]; exact hP, va_K.moved hW.alike hK, nwAll.warm hW hNw, ?_, hD, by rw [hU]; exact Nat.le_trans hz hS.1⟩⟩
    · rw [← hC]; exact va_recv hK hP hcl hq
    · rw [hU]; exact stF.moved hW.alike (stF.kept hst0 (fun a h1 h2 => hS.2.1 a h1 h2))
  have hrun := va_runV (p := Γ.1.1) (e := Γ.1.2.2.1) (below := Γ.2.1.2.2.1) (meth := Γ.2.1.2.2.2.1) (locs := locs) (cells := Γ.2.2.1.1) (slots := Γ.2.2.1.2.1) (g := F0 Γ.2.1.1 pc ls st) (rest := rest) ⟨hx, hb, hml, hown, hts'⟩ hMet cw hpre rfl hAs hl.1 hst (lv_room hrm) d ⟨hcs.1, hcs.2⟩
  intro T hT X
  obtain ⟨v, st₀, t, T', Ls, h0, X', hLs, e2, e3, ⟨hv, hWd, hF⟩, hgo⟩ := hrun T hT X
  cases hv
  have hS' : va_S (wF G) Γ.1.2.2.2.2.heap T'.heap (locs ++ Ls) := by
    have hF2 := hF
    unfold va_F at hF2
    rw [h0] at hF2
    refine ⟨Nat.le_trans hS.1 (by rw [e2]; exact hF2.1), fun a h1 h2 => by rw [e2, hF2.2 a (Nat.lt_of_lt_of_le h1 hS.1) h2]; exact hS.2.1 a h1 h2, fun a ha => ?_⟩
    rcases List.mem_append.mp ha with h | h
    · exact hS.2.2 a h
    · exact hLs a h
  obtain ⟨t2, a1, b1⟩ := kk ok n1 T'.heap (locs ++ Ls) ls (by rw [e1, e2]; exact hWd.1) hS' hl T' rfl X'
  exact ⟨t2, hgo t2 a1, b1⟩
theorem V_callS {cc : ByteArray} {own : String} {fr lo nL : Nat} {G : Wc} {Γ : Cx} {us : List (Nat × Ob)} {pc : Nat} {L : List (Nat × Value)} {st : List Value} {us1 cu cu1 : List (Nat × Ob)} {y : MethodName} {bytes : ByteArray} {maxL fr1 lo1 n index : Nat} {ret : Option FieldType} {As rest : List Value} {r : Option Value} (is : List Nat)
    (hM : Cn y bytes maxL ret fr1 lo1 G As cu cu1 r) (hsel : is.map (fun i => us[i]?) = cu.map some) (hids : cu1.map (fun q => q.1) = cu.map (fun q => q.1)) (hnd : va_nd is = true) (hus : putL us is cu1 = us1)
    (hw : Cond.methodLink own index y ∈ gw ∧ Cond.static y ∈ gw ∧ Cond.initialized y.cls ∈ gw ∧ Cond.code y bytes maxL ret ∈ gw)
    (hd : y.cls ≠ "java/lang/invoke/MethodHandle" ∧ y.cls ≠ "java/lang/invoke/VarHandle" ∧ (parseMethodDescriptor y.desc).map (fun d => d.parameters.length) = some n)
    (hfr : fr1 + 1 ≤ fr) (hlo : 8 + (maxL + 11) + lo1 ≤ lo) (hAs : As.length = n) (hst : st = As.reverse ++ rest) (hrm : (rest.map fun v => v.category).sum ≤ 8) (d : decode cc pc = .ok (.invokestatic index, 3))
    (kk : V cc own fr lo nL G Γ us1 (pc + 3) L (r.toList ++ rest)) : V cc own fr lo nL G Γ us pc L st := by
  intro ok hn H locs ls hP hS hl
  subst hus
  have ok' := ok
  obtain ⟨hx, hb, hml, hown, hts, hlk, hRm, hcs, hK, hNw, hst0, hD, hz, hL⟩ := ok'
  obtain ⟨n1, e1⟩ := ov_put (h := Γ.2.2.2) is hn (nd_sub hn is hnd hsel) hsel hids
  have hcu : ∀ q ∈ cu, ov Γ.2.2.2 us q.1 = q.2 := by
    intro q hq
    have h3 : (some q) ∈ is.map (fun i => us[i]?) := by rw [hsel]; exact List.mem_map_of_mem hq
    obtain ⟨j, hj, hj2⟩ := List.mem_map.mp h3
    exact ov_at hn (List.mem_of_getElem? hj2)
  have hMet := hM (nd_sub hn is hnd hsel) (ov Γ.2.2.2 us) hcu
  rw [← hL] at hMet
  have hgood : GoodIn (Cond.code y bytes maxL ret :: gw) (va_wsS own index y (Cond.code y bytes maxL ret :: gw)) := by
    intro w hw'
    have hmem : w ∈ gw := by
      rcases List.mem_append.mp hw' with h | h
      · simp only [List.mem_cons, List.not_mem_nil, or_false] at h
        rcases h with rfl | rfl | rfl
        · exact hw.1
        · exact hw.2.1
        · exact hw.2.2.1
      · rcases List.mem_cons.mp h with rfl | h
        · exact hw.2.2.2
        · exact h
    exact ⟨List.mem_cons_of_mem _ hmem, good_of_word (gw_good hmem)⟩
  have hts' : ∀ w ∈ Cond.code y bytes maxL ret :: gw, w.before Γ.2.1.2.1 Γ.1.2.2.2.2 = true := by
    intro w hw'
    rcases List.mem_cons.mp hw' with rfl | h
    · exact hts _ hw.2.2.2
    · exact hts _ h
  have cw : CallB Γ.1.2.2.2.1 Γ.1.2.2.2.2 Γ.2.1.2.1 own index y bytes maxL ret (Cond.code y bytes maxL ret :: gw) (rmOf fr1 lo1) 0 0 n ∧ (Cond.static y).before Γ.2.1.2.1 Γ.1.2.2.2.2 = true := va_cwS n hts' hgood rfl rfl rfl hd ⟨Nat.le_trans hfr hRm.1, Nat.le_trans hlo hRm.2⟩
  have hpre : PreS Γ.1.2.2.2.2 H (va_Pc As (Wd G (ov Γ.2.2.2 us))) As := by
    refine ⟨fun a U g mk z => ⟨z.1, z.2.1, va_K.moved (Vm.Alike.refl U.vm) z.2.2.1, nwAll.same (u := U) rfl z.2.2.2.1, stF.moved (Vm.Alike.refl U.vm) z.2.2.2.2.1, z.2.2.2.2.2⟩, fun U hU hW => ⟨rfl, by rw [hU]; exact hP, va_K.moved hW.alike hK, nwAll.warm hW hNw, ?_, hD, by rw [hU]; exact Nat.le_trans hz hS.1⟩⟩
    rw [hU]; exact stF.moved hW.alike (stF.kept hst0 (fun a h1 h2 => hS.2.1 a h1 h2))
  have hrun := va_runS (p := Γ.1.1) (e := Γ.1.2.2.1) (below := Γ.2.1.2.2.1) (meth := Γ.2.1.2.2.2.1) (locs := locs) (cells := Γ.2.2.1.1) (slots := Γ.2.2.1.2.1) (g := F0 Γ.2.1.1 pc ls st) (rest := rest) ⟨hx, hb, hml, hown, hts'⟩ hMet cw hpre rfl hAs hl.1 hst (lv_room hrm) d ⟨hcs.1, hcs.2⟩
  intro T hT X
  obtain ⟨v, st₀, t, T', Ls, h0, X', hLs, e2, e3, ⟨hv, hWd, hF⟩, hgo⟩ := hrun T hT X
  cases hv
  have hS' : va_S (wF G) Γ.1.2.2.2.2.heap T'.heap (locs ++ Ls) := by
    have hF2 := hF
    unfold va_F at hF2
    rw [h0] at hF2
    refine ⟨Nat.le_trans hS.1 (by rw [e2]; exact hF2.1), fun a h1 h2 => by rw [e2, hF2.2 a (Nat.lt_of_lt_of_le h1 hS.1) h2]; exact hS.2.1 a h1 h2, fun a ha => ?_⟩
    rcases List.mem_append.mp ha with h | h
    · exact hS.2.2 a h
    · exact hLs a h
  obtain ⟨t2, a1, b1⟩ := kk ok n1 T'.heap (locs ++ Ls) ls (by rw [e1, e2]; exact hWd.1) hS' hl T' rfl X'
  exact ⟨t2, hgo t2 a1, b1⟩
/-- how a method ends: Q is what its contract owes -/
def Fnl (G : Wc) (Γ : Cx) (ret : Option FieldType) (r : Option Value) (h1 : Nat → Ob) : Prop :=
  Γ.2.1.2.2.2.1.sig.returnType = ret ∧ Γ.2.2.1.2.2 = MQ Γ.2.1.2.2.1 (Pq G r h1) Γ.2.1.2.1 Γ.1.2.2.2.2 Γ.2.2.1.1 Γ.2.2.1.2.1 (wF G)
theorem fin_post {cc : ByteArray} {own : String} {fr lo nL : Nat} {G : Wc} {Γ : Cx} {r : Option Value} {h1 : Nat → Ob} {H : Heap} {locs : List Loc} (ok : Ok cc own fr lo nL G Γ) (hP : va_P (wD G) vwCl (allc G h1) H) (hS : va_S (wF G) Γ.1.2.2.2.2.heap H locs) : ∀ t : State, t.heap = H → Γ.1.2.2.2.2.WarmedH t.vm → Pq G r h1 Γ.2.1.2.1 Γ.1.2.2.2.2 (.returned r) t := by
  intro t ht hW
  obtain ⟨hx, hb, hml, hown, hts, hlk, hRm, hcs, hK, hNw, hst0, hD, hz, hL⟩ := ok
  refine ⟨rfl, ⟨by rw [ht]; exact hP, va_K.moved hW.alike hK, nwAll.warm hW hNw, ?_, hD, by rw [ht]; exact Nat.le_trans hz hS.1⟩, hS.F ht⟩
  rw [ht]; exact stF.moved hW.alike (stF.kept hst0 (fun a h1 h2 => hS.2.1 a h1 h2))
theorem V_iret {cc : ByteArray} {own : String} {fr lo nL : Nat} {G : Wc} {Γ : Cx} {us : List (Nat × Ob)} {pc : Nat} {L : List (Nat × Value)} {v : Int32} (hf : Fnl G Γ (some .int) (some (.int v)) (ov Γ.2.2.2 us)) (d : decode cc pc = .ok (.ireturn, 1)) : V cc own fr lo nL G Γ us pc L [.int v] := by
  intro ok hn H locs ls hP hS hl
  obtain ⟨h1, h2⟩ := hf
  rw [h2]
  exact W.iret ok.1 ok.2.1 h1 (fin_post ok hP hS) (fun q hq => hS.2.2 q hq) d ok.2.2.2.2.2.1
theorem V_zret {cc : ByteArray} {own : String} {fr lo nL : Nat} {G : Wc} {Γ : Cx} {us : List (Nat × Ob)} {pc : Nat} {L : List (Nat × Value)} {v : Int32} (hf : Fnl G Γ (some .boolean) (some (.int v)) (ov Γ.2.2.2 us)) (hz : z01 v = true) (d : decode cc pc = .ok (.ireturn, 1)) : V cc own fr lo nL G Γ us pc L [.int v] := by
  intro ok hn H locs ls hP hS hl
  obtain ⟨h1, h2⟩ := hf
  rw [h2]
  exact W.zret ok.1 ok.2.1 h1 (z01_nar hz) (fin_post ok hP hS) (fun q hq => hS.2.2 q hq) d ok.2.2.2.2.2.1
theorem V_vret {cc : ByteArray} {own : String} {fr lo nL : Nat} {G : Wc} {Γ : Cx} {us : List (Nat × Ob)} {pc : Nat} {L : List (Nat × Value)} (hf : Fnl G Γ none none (ov Γ.2.2.2 us)) (d : decode cc pc = .ok (.return_, 1)) : V cc own fr lo nL G Γ us pc L [] := by
  intro ok hn H locs ls hP hS hl
  obtain ⟨h1, h2⟩ := hf
  rw [h2]
  exact W.vret ok.1 ok.2.1 h1 (fin_post ok hP hS) (fun q hq => hS.2.2 q hq) d ok.2.2.2.2.2.1
/-- a contract out of the walk of its body -/
theorem V_method {y : MethodName} {cc : ByteArray} {own : String} {nL fr lo : Nat} {ret : Option FieldType} {G : Wc} {As : List Value} {us us1 : List (Nat × Ob)} {r : Option Value} (L0 : List (Nat × Value)) (hy : plainName y.cls = true) (hown : y.cls = own) (hAs : (lg_sl As).length ≤ nL) (hL0 : lv_args 0 As = L0)
    (body : ∀ Γ : Cx, Fnl G Γ ret r (ov Γ.2.2.2 us1) → V cc own fr lo nL G Γ us 0 L0 []) : Cn y cc nL ret fr lo G As us us1 r := by
  intro hn h hh
  refine Met.ofW (cc := cc) (maxL := nL) (ret := ret) hy rfl ?_
  intro p e s m args below meth c s₁ B hml hv
  obtain ⟨rfl, hP, hK, hNw, hst, hD, hz⟩ := hv
  have hts : ∀ w ∈ Cond.code y cc nL ret :: gw, w.before As.toArray s = true := atoms_spec (ws := Cond.code y cc nL ret :: gw) B.pre
  have hE : ov h us = h := by
    funext j
    by_cases hj : j ∈ us.map (fun q => q.1)
    · obtain ⟨q, hq, rfl⟩ := List.mem_map.mp hj
      rw [ov_at hn hq, hh q hq]
    · exact ov_out hj
  have hl := lv_entry As hAs
  rw [hL0] at hl
  have hfc := findClass_of_methodNamed B.named
  rw [hown] at hfc
  have key := body ((p, wL G, e, (headSpec (Cond.code y cc nL ret :: gw) (rmOf fr lo)).room, s), (m, As.toArray, below, meth, c), (0, 0, MQ below (Pq G r (ov h us1)) As.toArray s 0 0 (wF G)), h) ⟨B.returns, rfl⟩ ⟨B.exec, B.bytes, hml, hfc, fun w hw => hts w (List.mem_cons_of_mem _ hw), B.notSynchronized, ⟨Nat.le_refl _, Nat.le_refl _⟩, ⟨Nat.zero_le _, Nat.zero_le _⟩, hK, hNw, hst, hD, hz, rfl⟩ hn s.heap [] _ (by rw [hE]; exact hP) va_S.rf hl
  rw [lg_entry_eq]
  exact key
