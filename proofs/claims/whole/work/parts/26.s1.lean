theorem arr_prim {args : Array Value} {s : State} {ty : FieldType} (h : (Cond.arrayClass ty).before args s = true) : ∃ cA : ClassId, ArrOfT s cA ty ∧ s.vm.findClass ("[" ++ ty.toString) = some cA := by
  obtain ⟨cA, kA, comp, h1, h2, h3⟩ := Cond.arrayClass_spec h
  exact ⟨cA, fun n z => ⟨fun k h => (by cases h), kA, h2, comp, h3⟩, h1⟩
theorem arr_obj {args : Array Value} {s : State} {C : String} (h : (Cond.arrayOver (.object C)).before args s = true) : ∃ cA : ClassId, ArrOfT s cA (.object C) ∧ va_RA s cA (.object C) := by
  obtain ⟨comp, cA, kA, hcomp, hidx, hkA, hkindA, hnameA⟩ := Cond.arrayOver_spec h
  refine ⟨cA, fun n z => ⟨fun k h => (by cases h), kA, hkA, comp, hkindA⟩, kA, comp, hkA, hkindA, hcomp, ?_⟩
  exact hnameA
/-- the classes' ids and slots at the law's start -/
theorem law_K {s : State} {args : Array Value} (hts : ∀ w ∈ lw_tbl, w.before args s = true) : ∃ (D : va_G) (T : Nat → ClassId), va_K D vwCl [(T 0, .int), (T 1, .long), (T 2, .byte), (T 3, .boolean), (T 4, .object "CombedOut$Word"), (T 5, .object "CombedOut$State"), (T 6, .object "CombedOut$Image")] s := by
  obtain ⟨c0, i0, k0⟩ := u_known (C := RX0) (T := TX0) (N := 9) (n := 9) hts (fun w hw => gw_tbl (inX0 w hw)) (hts (.instantiable RX0 9) (List.mem_of_getElem? (i := 459) (by decide +kernel)))
  obtain ⟨c1, i1, k1⟩ := u_known (C := RX1) (T := TX1) (N := 4) (n := 4) hts (fun w hw => gw_tbl (inX1 w hw)) (hts (.instantiable RX1 4) (List.mem_of_getElem? (i := 405) (by decide +kernel)))
  obtain ⟨c2, i2, k2⟩ := u_known (C := RX2) (T := TX2) (N := 3) (n := 3) hts (fun w hw => gw_tbl (inX2 w hw)) (hts (.instantiable RX2 3) (List.mem_of_getElem? (i := 385) (by decide +kernel)))
  obtain ⟨c3, i3, k3⟩ := u_known (C := RX3) (T := TX3) (N := 7) (n := 7) hts (fun w hw => gw_tbl (inX3 w hw)) (hts (.instantiable RX3 7) (List.mem_of_getElem? (i := 431) (by decide +kernel)))
  obtain ⟨c4, i4, k4⟩ := u_known (C := RX4) (T := TX4) (N := 16) (n := 16) hts (fun w hw => gw_tbl (inX4 w hw)) (hts (.instantiable RX4 16) (List.mem_of_getElem? (i := 196) (by decide +kernel)))
  obtain ⟨c5, i5, k5⟩ := u_known (C := RX5) (T := TX5) (N := 5) (n := 5) hts (fun w hw => gw_tbl (inX5 w hw)) (hts (.instantiable RX5 5) (List.mem_of_getElem? (i := 360) (by decide +kernel)))
  obtain ⟨c6, i6, k6⟩ := u_known (C := RX6) (T := TX6) (N := 13) (n := 13) hts (fun w hw => gw_tbl (inX6 w hw)) (hts (.instantiable RX6 13) (List.mem_of_getElem? (i := 294) (by decide +kernel)))
  obtain ⟨c7, i7, k7⟩ := u_known (C := RX7) (T := TX7) (N := 2) (n := 2) hts (fun w hw => gw_tbl (inX7 w hw)) (hts (.instantiable RX7 2) (List.mem_of_getElem? (i := 499) (by decide +kernel)))
  obtain ⟨c8, i8, k8⟩ := u_known (C := RX8) (T := TX8) (N := 11) (n := 11) hts (fun w hw => gw_tbl (inX8 w hw)) (hts (.instantiable RX8 11) (List.mem_of_getElem? (i := 144) (by decide +kernel)))
  obtain ⟨c9, i9, k9⟩ := u_known (C := RX10) (T := TX10) (N := 16) (n := 16) hts (fun w hw => gw_tbl (inX10 w hw)) (hts (.instantiable RX10 16) (List.mem_of_getElem? (i := 136) (by decide +kernel)))
  obtain ⟨c10, i10, k10⟩ := u_known (C := RX11) (T := TX11) (N := 49) (n := 49) hts (fun w hw => gw_tbl (inX11 w hw)) (hts (.instantiable RX11 49) (List.mem_of_getElem? (i := 1344) (by decide +kernel)))
  obtain ⟨t0, a0, b0⟩ := arr_prim (ty := .int) (hts (.arrayClass .int) (List.mem_of_getElem? (i := 194) (by decide +kernel)))
  obtain ⟨t1, a1, b1⟩ := arr_prim (ty := .long) (hts (.arrayClass .long) (List.mem_of_getElem? (i := 292) (by decide +kernel)))
  obtain ⟨t2, a2, b2⟩ := arr_prim (ty := .byte) (hts (.arrayClass .byte) (List.mem_of_getElem? (i := 1320) (by decide +kernel)))
  obtain ⟨t3, a3, b3⟩ := arr_prim (ty := .boolean) (hts (.arrayClass .boolean) (List.mem_of_getElem? (i := 1529) (by decide +kernel)))
  obtain ⟨t4, a4, b4⟩ := arr_obj (C := "CombedOut$Word") (hts (.arrayOver (.object "CombedOut$Word")) (List.mem_of_getElem? (i := 366) (by decide +kernel)))
  obtain ⟨t5, a5, b5⟩ := arr_obj (C := "CombedOut$State") (hts (.arrayOver (.object "CombedOut$State")) (List.mem_of_getElem? (i := 391) (by decide +kernel)))
  obtain ⟨t6, a6, b6⟩ := arr_obj (C := "CombedOut$Image") (hts (.arrayOver (.object "CombedOut$Image")) (List.mem_of_getElem? (i := 404) (by decide +kernel)))
  refine ⟨(fun k => match k with | 0 => c0 | 1 => c1 | 2 => c2 | 3 => c3 | 4 => c4 | 5 => c5 | 6 => c6 | 7 => c7 | 8 => c8 | 9 => c9 | 10 => c10 | _ => c0, fun k => match k with | 0 => i0 | 1 => i1 | 2 => i2 | 3 => i3 | 4 => i4 | 5 => i5 | 6 => i6 | 7 => i7 | 8 => i8 | 9 => i9 | 10 => i10 | _ => i0), fun k => match k with | 0 => t0 | 1 => t1 | 2 => t2 | 3 => t3 | 4 => t4 | 5 => t5 | 6 => t6 | _ => t0, fun k q hq => ?_, fun k q hq => ?_⟩
  · match k, hq with
    | 0, hq => cases hq; exact k0
    | 1, hq => cases hq; exact k1
    | 2, hq => cases hq; exact k2
    | 3, hq => cases hq; exact k3
    | 4, hq => cases hq; exact k4
    | 5, hq => cases hq; exact k5
    | 6, hq => cases hq; exact k6
    | 7, hq => cases hq; exact k7
    | 8, hq => cases hq; exact k8
    | 9, hq => cases hq; exact k9
    | 10, hq => cases hq; exact k10
    | k + 11, hq => simp [vwCl] at hq
  · match k, hq with
    | 0, hq => cases hq; exact ⟨a0, b0⟩
    | 1, hq => cases hq; exact ⟨a1, b1⟩
    | 2, hq => cases hq; exact ⟨a2, b2⟩
    | 3, hq => cases hq; exact ⟨a3, b3⟩
    | 4, hq => cases hq; exact ⟨a4, b4⟩
    | 5, hq => cases hq; exact ⟨a5, b5⟩
    | 6, hq => cases hq; exact ⟨a6, b6⟩
    | k + 7, hq => simp at hq
theorem law_ao {s : State} {args : Array Value} (hts : ∀ w ∈ lw_tbl, w.before args s = true) : aoF s := by
  intro c hc
  simp only [aoL, List.mem_cons, List.not_mem_nil, or_false] at hc
  rcases hc with rfl | rfl | rfl
  · exact va_AO.of (hts (.arrayOver (.object "CombedOut$Word")) (List.mem_of_getElem? (i := 366) (by decide +kernel)))
  · exact va_AO.of (hts (.arrayOver (.object "CombedOut$State")) (List.mem_of_getElem? (i := 391) (by decide +kernel)))
  · exact va_AO.of (hts (.arrayOver (.object "CombedOut$Image")) (List.mem_of_getElem? (i := 404) (by decide +kernel)))
theorem law_nw {s : State} {args : Array Value} (hts : ∀ w ∈ lw_tbl, w.before args s = true) (hgv : (Jvm.Cond.and given_1 narrow_1).before args s = true) : nwAll s := by
  have hs := flat_of_before _ hgv
  refine ⟨fun w hw hn => va_Nw.of (by cases w <;> first | (cases hn; done) | rfl) (hts w hw), ?_, ?_, ?_, ?_⟩
  · obtain ⟨a, _, _, _, q1, -⟩ := Cond.exactly_spec (hs (Cond.exactly (.string "CombedOut" 128) "java/lang/String") (by decide +kernel))
    exact ⟨a, vk_R.of (hts (.stringRef RX10 128 "no such person") (List.mem_of_getElem? (i := 1294) (by decide +kernel))) q1⟩
  · obtain ⟨a, _, _, _, q1, -⟩ := Cond.exactly_spec (hs (Cond.exactly (.string "CombedOut" 157) "java/lang/String") (by decide +kernel))
    exact ⟨a, vk_R.of (hts (.stringRef RX10 157 "nothing such is told of a person") (List.mem_of_getElem? (i := 1323) (by decide +kernel))) q1⟩
  · obtain ⟨a, _, _, _, q1, -⟩ := Cond.exactly_spec (hs (Cond.exactly (.string "CombedOut" 300) "java/lang/String") (by decide +kernel))
    exact ⟨a, vk_R.of (hts (.stringRef RX10 300 "no such person or number") (List.mem_of_getElem? (i := 1331) (by decide +kernel))) q1⟩
  · obtain ⟨a, _, _, _, q1, -⟩ := Cond.exactly_spec (hs (Cond.exactly (.string "CombedOut" 302) "java/lang/String") (by decide +kernel))
    exact ⟨a, vk_R.of (hts (.stringRef RX10 302 "no knots") (List.mem_of_getElem? (i := 1332) (by decide +kernel))) q1⟩
