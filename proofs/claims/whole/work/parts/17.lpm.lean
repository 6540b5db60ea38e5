/-- the same place, with more cells made -/
def gx (Γ : Cx) (a b : Nat) : Cx := (Γ.1, Γ.2.1, (Γ.2.2.1.1 + a, Γ.2.2.1.2.1 + b, Γ.2.2.1.2.2), Γ.2.2.2)
theorem ok_gx {cc : ByteArray} {own : String} {fr lo nL : Nat} {G : Wc} {Γ : Cx} {a b : Nat} (ok : Ok cc own fr lo nL G Γ) (h1 : Γ.2.2.1.1 + a ≤ Γ.1.2.2.2.1.cells) (h2 : Γ.2.2.1.2.1 + b ≤ Γ.1.2.2.2.1.slots) : Ok cc own fr lo nL G (gx Γ a b) := by
  obtain ⟨hx, hb, hml, hown, hts, hlk, hRm, hcs, hK, hNw, hst0, hD, hz, hL⟩ := ok
  exact ⟨hx, hb, hml, hown, hts, hlk, hRm, ⟨h1, h2⟩, hK, hNw, hst0, hD, hz, hL⟩
/-- a call of a method that answers or throws, in a method that catches it -/
theorem V_callX {cc : ByteArray} {own : String} {fr lo nL : Nat} {G : Wc} {Γ : Cx} {us : List (Nat × Ob)} {pc : Nat} {L : List (Nat × Value)} {st : List Value} {cu : List (Nat × Ob)} {C : String} {y : MethodName} {bytes : ByteArray} {maxL fr1 lo1 n index u0 k0 ct hpc : Nat} {As rest : List Value} {r : Option Int32} {S0 : Ob} {q : vw_C} {fs : List Value} {xe : ExceptionTableEntry} (is : List Nat) (x : Nat)
    (hM : CnX y bytes maxL fr1 lo1 G (.ref (wA G u0 0) :: As) cu r) (hnt : (wL G).stackTraces = false) (hsel : is.map (fun i => us[i]?) = cu.map some) (hnd : va_nd is = true)
    (hu : us[x]? = some (u0, S0)) (hk : kd u0 = k0) (hk12 : k0 < 12) (hcell : (uc G u0 k0 S0)[0]? = some (wA G u0 0, .inr (k0, fs))) (hcl : vwCl[k0]? = some q) (hC : q.1 = C)
    (hw : Cond.methodLink own index y ∈ gw ∧ Cond.instanceMethod y ∈ gw ∧ Cond.selects C y y ∈ gw ∧ Cond.initialized C ∈ gw ∧ Cond.code y bytes maxL (some .int) ∈ gw)
    (hd : y.cls = C ∧ y.cls ≠ "java/lang/invoke/MethodHandle" ∧ y.cls ≠ "java/lang/invoke/VarHandle" ∧ (parseMethodDescriptor y.desc).map (fun d => d.parameters.length) = some n)
    (hfr : fr1 + 1 ≤ fr) (hlo : 8 + (maxL + 11) + lo1 ≤ lo) (hAs : As.length = n) (hst : st = As.reverse ++ .ref (wA G u0 0) :: rest) (hrm : (rest.map fun v => v.category).sum ≤ 8) (d : decode cc pc = .ok (.invokevirtual index, 3))
    (htab : Γ.2.1.2.2.2.2.exceptionTable.toList = [xe]) (hcov : covers xe pc = true) (hct : xe.catchType = ct) (hct0 : ct ≠ 0) (hhp : xe.handlerPc = hpc) (hcw : Cond.classLink own ct nseN ∈ gw) (hcast : Cond.castable nseN nseN ∈ lw_tbl)
    (hc1 : Γ.2.2.1.1 + 1 ≤ Γ.1.2.2.2.1.cells) (hs1 : Γ.2.2.1.2.1 + 6 ≤ Γ.1.2.2.2.1.slots)
    (kv : ∀ v : Int32, r = some v → V cc own fr lo nL G (gx Γ 1 6) us (pc + 3) L (.int v :: rest)) (kn : r = none → ∀ q9 : Nat, V cc own fr lo nL G (gx Γ 1 6) us hpc L [.ref q9]) : V cc own fr lo nL G Γ us pc L st := by
  intro ok hn H locs ls hP hS hl
  have okg := ok_gx ok hc1 hs1
  obtain ⟨hx, hb, hml, hown, hts, hlk, hRm, hcs, hK, hNw, hst0, hD, hz, hL⟩ := ok
  have hcu : ∀ q ∈ cu, ov Γ.2.2.2 us q.1 = q.2 := by
    intro q hq
    have h3 : (some q) ∈ is.map (fun i => us[i]?) := by rw [hsel]; exact List.mem_map_of_mem hq
    obtain ⟨j, hj, hj2⟩ := List.mem_map.mp h3
    exact ov_at hn (List.mem_of_getElem? hj2)
  have hncu := nd_sub hn is hnd hsel
  have hE : ov (ov Γ.2.2.2 us) cu = ov Γ.2.2.2 us := by
    funext j
    by_cases hj : j ∈ cu.map (fun q => q.1)
    · obtain ⟨q, hq, rfl⟩ := List.mem_map.mp hj
      rw [ov_at hncu hq, hcu q hq]
    · exact ov_out hj
  have hMet := hM hnt hncu (ov Γ.2.2.2 us) hcu
  rw [← hL, hE] at hMet
  have hgood : GoodIn (Cond.code y bytes maxL (some .int) :: gw) (wsV own index C y (Cond.code y bytes maxL (some .int) :: gw)) := by
    intro w hw'
    have hmem : w ∈ gw := by
      rcases List.mem_append.mp hw' with h | h
      · simp only [List.mem_cons, List.not_mem_nil, or_false] at h
        rcases h with rfl | rfl | rfl | rfl
        · exact hw.1
        · exact hw.2.1
        · exact hw.2.2.1
        · exact hw.2.2.2.1
      · rcases List.mem_cons.mp h with rfl | h
        · exact hw.2.2.2.2
        · exact h
    exact ⟨List.mem_cons_of_mem _ hmem, good_of_word (gw_good hmem)⟩
  have hts' : ∀ w ∈ Cond.code y bytes maxL (some .int) :: gw, w.before Γ.2.1.2.1 Γ.1.2.2.2.2 = true := by
    intro w hw'
    rcases List.mem_cons.mp hw' with rfl | h
    · exact hts _ hw.2.2.2.2
    · exact hts _ h
  have cw : CallW Γ.1.2.2.2.1 Γ.1.2.2.2.2 Γ.2.1.2.1 own C index y bytes maxL (some .int) (Cond.code y bytes maxL (some .int) :: gw) (rmX fr1 lo1) 1 6 n := cwV n hts' hgood rfl rfl rfl hd ⟨Nat.le_trans hfr hRm.1, Nat.le_trans hlo hRm.2⟩
  obtain ⟨q0, hq⟩ := allc_get (kd_lt hk hk12) hk (ov_get hn hu) hcell
  have hpre : PreV Γ.1.2.2.2.2 H C (wA G u0 0) (va_Pc (.ref (wA G u0 0) :: As) (Wd G (ov Γ.2.2.2 us))) As := by
    refine ⟨fun a U g mk z => ⟨z.1, z.2.1, va_K.moved (Vm.Alike.refl U.vm) z.2.2.1, nwAll.same (u := U) rfl z.2.2.2.1, stF.moved (Vm.Alike.refl U.vm) z.2.2.2.2.1, z.2.2.2.2.2⟩, ?_, fun U hU hW => ⟨rfl, by rw [hU]; exact hP, va_K.moved hW.alike hK, nwAll.warm hW hNw, ?_, hD, by rw [hU]; exact Nat.le_trans hz hS.1⟩⟩
    · rw [← hC]; exact va_recv hK hP hcl hq
    · rw [hU]; exact stF.moved hW.alike (stF.kept hst0 (fun a h1 h2 => hS.2.1 a h1 h2))
  have hrun := vx_runV (p := Γ.1.1) (e := Γ.1.2.2.1) (below := Γ.2.1.2.2.1) (meth := Γ.2.1.2.2.2.1) (locs := locs) (cells := Γ.2.2.1.1) (slots := Γ.2.2.1.2.1) (g := F0 Γ.2.1.1 pc ls st) (rest := rest) ⟨hx, hb, hml, hown, hts'⟩ hMet cw hpre rfl hAs hl.1 hst (lv_room hrm) d ⟨hc1, hs1⟩
  intro T hT X
  rcases hrun T hT X with ⟨v, st₀, t, T', Ls, h0, X', hLs, e2, e3, ⟨v0, hr0, hv, hWd, hF⟩, hgo⟩ | ⟨q9, st₀, t, T', Ls, E, ce, h0, X', hLs, e2, e3, ⟨hr0, hE0, hPt, hF⟩, hce, hcv, hcl9, hgo⟩
  · cases hv
    have hS' : va_S (wF G) Γ.1.2.2.2.2.heap T'.heap (locs ++ Ls) := by
      have hF2 := hF
      unfold va_F at hF2
      rw [h0] at hF2
      refine ⟨Nat.le_trans hS.1 (by rw [e2]; exact hF2.1), fun a h1 h2 => by rw [e2, hF2.2 a (Nat.lt_of_lt_of_le h1 hS.1) h2]; exact hS.2.1 a h1 h2, fun a ha => ?_⟩
      rcases List.mem_append.mp ha with h | h
      · exact hS.2.2 a h
      · exact hLs a h
    obtain ⟨t2, a1, b1⟩ := kv v0 hr0 okg hn T'.heap (locs ++ Ls) ls (by rw [e2]; exact hWd.1) hS' hl T' rfl X'
    exact ⟨t2, hgo t2 a1, b1⟩
  · have hS' : va_S (wF G) Γ.1.2.2.2.2.heap T'.heap (locs ++ Ls) := by
      have hF2 := hF
      unfold va_F at hF2
      rw [h0] at hF2
      refine ⟨Nat.le_trans hS.1 (by rw [e2]; exact hF2.1), fun a h1 h2 => by rw [e2, hF2.2 a (Nat.lt_of_lt_of_le h1 hS.1) h2]; exact hS.2.1 a h1 h2, fun a ha => ?_⟩
      rcases List.mem_append.mp ha with h | h
      · exact hS.2.2 a h
      · exact hLs a h
    subst hE0
    have hk9 : W Γ.1.1 Γ.1.2.1 Γ.1.2.2.1 Γ.1.2.2.2.1 Γ.1.2.2.2.2 Γ.2.1.1 Γ.2.1.2.1 Γ.2.1.2.2.1 Γ.2.1.2.2.2.1 Γ.2.1.2.2.2.2 T'.heap (locs ++ Ls) (Γ.2.2.1.1 + 1) (Γ.2.2.1.2.1 + 6) Γ.2.2.1.2.2 (F0 Γ.2.1.1 xe.handlerPc ls [.ref q9]) := by
      rw [hhp]
      exact kn hr0 q9 okg hn T'.heap (locs ++ Ls) ls (by rw [e2]; exact hPt) hS' hl
    have hcat := vx_catch (pc := pc) (rest := rest) hown [] xe [] htab (fun z hz => nomatch hz) hcov (by rw [hct]; exact hct0) (by rw [hct]; exact hts _ hcw) (va_Nw.use rfl (hNw.1 _ hcast rfl)) (by rw [e2]; exact hce) hcv hcl9 hk9
    obtain ⟨t2, a1, b1⟩ := hcat T' rfl X'
    exact ⟨t2, hgo.trans a1, b1⟩
/-- a contract of a method with a table, that makes at most one exception -/
def CnW (y : MethodName) (cc : ByteArray) (nL : Nat) (hh : List (Nat × Nat × Nat × Nat)) (fr lo : Nat) (G : Wc) (As : List Value) (us us1 : List (Nat × Ob)) (r : Option Value) : Prop :=
  (wL G).stackTraces = false → nd us → ∀ h : Nat → Ob, (∀ q ∈ us, h q.1 = q.2) → Met (wL G) y (Cond.codeWith y cc nL (some .int) hh :: gw) (rmX fr lo) (va_Pc As (Wd G h)) (Pq G r (ov h us1)) 1 6 (wF G)
theorem V_methodW {y : MethodName} {cc : ByteArray} {own : String} {nL fr lo : Nat} {hh : List (Nat × Nat × Nat × Nat)} {G : Wc} {As : List Value} {us us1 : List (Nat × Ob)} {r : Option Value} (L0 : List (Nat × Value)) (hy : plainName y.cls = true) (hown : y.cls = own) (hAs : (lg_sl As).length ≤ nL) (hL0 : lv_args 0 As = L0)
    (body : ∀ Γ : Cx, Fnl G (gx Γ 1 6) (some .int) r (ov Γ.2.2.2 us1) → Γ.2.1.2.2.2.2.exceptionTable.toList = tableOf hh → Γ.2.2.1.1 + 1 ≤ Γ.1.2.2.2.1.cells → Γ.2.2.1.2.1 + 6 ≤ Γ.1.2.2.2.1.slots → (wL G).stackTraces = false → V cc own fr lo nL G Γ us 0 L0 []) : CnW y cc nL hh fr lo G As us us1 r := by
  intro hnt hn h hh0
  refine va_MetW (cc := cc) (maxL := nL) (ret := some .int) (hh := hh) hy rfl ?_
  intro p e s m args below meth c s₁ B hml hv
  obtain ⟨rfl, hP, hK, hNw, hst, hD, hz⟩ := hv
  have hts : ∀ w ∈ Cond.codeWith y cc nL (some .int) hh :: gw, w.before As.toArray s = true := atoms_spec (ws := Cond.codeWith y cc nL (some .int) hh :: gw) B.pre
  have htab := vx_table (x := y) B (hts _ List.mem_cons_self)
  have hE : ov h us = h := by
    funext j
    by_cases hj : j ∈ us.map (fun q => q.1)
    · obtain ⟨q, hq, rfl⟩ := List.mem_map.mp hj
      rw [ov_at hn hq, hh0 q hq]
    · exact ov_out hj
  have hl := lv_entry As hAs
  rw [hL0] at hl
  have hfc := findClass_of_methodNamed B.named
  rw [hown] at hfc
  have key := body ((p, wL G, e, (headSpec (Cond.codeWith y cc nL (some .int) hh :: gw) (rmX fr lo)).room, s), (m, As.toArray, below, meth, c), (0, 0, MQ below (Pq G r (ov h us1)) As.toArray s 1 6 (wF G)), h) ⟨B.returns, rfl⟩ htab (Nat.le_refl _) (Nat.le_refl _) hnt ⟨B.exec, B.bytes, hml, hfc, fun w hw => hts w (List.mem_cons_of_mem _ hw), B.notSynchronized, ⟨Nat.le_refl _, Nat.le_refl _⟩, ⟨Nat.zero_le _, Nat.zero_le _⟩, hK, hNw, hst, hD, hz, rfl⟩ hn s.heap [] _ (by rw [hE]; exact hP) va_S.rf hl
  rw [lg_entry_eq]
  exact key
theorem uc_out {G : Wc} {O : Ob} (h : oI O 1 = 1) : (uc G 29 11 O)[0]? = some (wA G 29 1, .inl (wT G 1, 1, .inr (.inl (oJ O 0)))) := by
  show (uc11 G 29 O)[0]? = _
  unfold uc11
  rw [if_pos h]
  rfl
theorem uc_outs {G : Wc} {O : Ob} (h : oI O 1 = 1) (f : Nat → Int64) : uc G 29 11 (sJ O 0 f) = (uc G 29 11 O).set 0 (wA G 29 1, .inl (wT G 1, 1, .inr (.inl f))) := by
  show uc11 G 29 (sJ O 0 f) = (uc11 G 29 O).set 0 _
  unfold uc11
  have h2 : oI (sJ O 0 f) 1 = 1 := h
  rw [if_pos h, if_pos h2]
  rfl
theorem nse_lw : Cond.classLink RL 13 nseN ∈ gw := gw_at 1250 (by decide +kernel) rfl
theorem nse_cast : Cond.castable nseN nseN ∈ lw_tbl := List.mem_of_getElem? (i := 1257) (by decide +kernel)
theorem wm_RL_7 : Cond.methodLink RL 7 yX10_person ∈ gw ∧ Cond.instanceMethod yX10_person ∈ gw ∧ Cond.selects RX10 yX10_person yX10_person ∈ gw ∧ Cond.initialized RX10 ∈ gw ∧ Cond.code yX10_person cX10_person 3 (some .int) ∈ gw := ⟨gw_at 1251 (by decide +kernel) rfl, gw_at 1252 (by decide +kernel) rfl, gw_at 1253 (by decide +kernel) rfl, gw_at 115 (by decide +kernel) rfl, gw_at 1254 (by decide +kernel) rfl⟩
theorem md_X10_person : yX10_person.cls = RX10 ∧ yX10_person.cls ≠ "java/lang/invoke/MethodHandle" ∧ yX10_person.cls ≠ "java/lang/invoke/VarHandle" ∧ (parseMethodDescriptor yX10_person.desc).map (fun d => d.parameters.length) = some 2 := by decide +kernel
def pL_person (V0 V2 V3 O : Ob) (a b : Int32) : Option (Int32 × Ob) :=
  gd (decide (oI O 1 = 1)) ((pX10_person V0 V2 V3 a b).bind fun r => match r with
    | some v => some (0, sJ O 0 (va_up (oJ O 0) 0 v.toInt64))
    | none => some (1, O))
theorem kL_person {G : Wc} {V0 V2 V3 O : Ob} {a b : Int32} {r : Int32 × Ob} (hf : pL_person V0 V2 V3 O a b = some r) : CnW yL_person cL_person 5 [(0, 10, 13, 13)] 7 152 G [.ref (wA G 0 0), .int a, .int b, .ref (wA G 29 1)] [(0, V0), (2, V2), (3, V3), (29, O)] [(0, V0), (2, V2), (3, V3), (29, r.2)] (some (.int r.1)) := by
  refine V_methodW [(0, .ref (wA G 0 0)), (1, .int a), (2, .int b), (3, .ref (wA G 29 1))] (by decide) rfl (Nat.le_of_ble_eq_true rfl) rfl (fun Γ hF htab hc1 hs1 hnt => ?_)
  unfold pL_person at hf
  replace hf := gd_some hf; obtain ⟨hO, hf⟩ := hf
  replace hO := of_decide_eq_true hO
  replace hf := bd_some hf; obtain ⟨r1, h1, hf⟩ := hf
  refine v_aload_n (pc := 0) 3 dL_person_0 rfl ?_
  refine v_iconst (pc := 1) (0 : Int32) dL_person_1 ci_0 ?_
  refine v_aload_n (pc := 2) 0 dL_person_2 rfl ?_
  refine v_iload_n (pc := 3) 1 dL_person_3 rfl ?_
  refine v_iload_n (pc := 4) 2 dL_person_4 rfl ?_
  refine V_callX (pc := 5) (xe := ⟨0, 10, 13, 13⟩) (hpc := 13) (ct := 13) [0, 1, 2] 0 (kX10_person h1) hnt rfl rfl rfl rfl (Nat.le_of_ble_eq_true rfl) rfl rfl rfl wm_RL_7 md_X10_person (Nat.le_of_ble_eq_true rfl) (Nat.le_of_ble_eq_true rfl) rfl rfl (Nat.le_of_ble_eq_true rfl) dL_person_5 htab rfl rfl (by decide) rfl nse_lw nse_cast hc1 hs1 (fun v hv => ?_) (fun hv q9 => ?_)
  · subst hv
    have hf2 := Option.some.inj hf; subst hf2
    refine v_i2l (pc := 8) dL_person_8 ?_
    refine V_last (pc := 9) (us1 := [_, _, _, _]) (S1 := sJ O 0 (va_up (oJ O 0) (0 : Int32).toNatClampNeg v.toInt64)) 3 0 rfl rfl (Nat.le_of_ble_eq_true rfl) (uc_out hO) (by decide) (uc_outs hO _) rfl dL_person_9 ?_
    refine v_goto (pc := 10) 17 dL_person_10 (by decide) ?_
    refine v_iconst (pc := 17) (0 : Int32) dL_person_17 ci_0 ?_
    exact V_iret (pc := 18) hF dL_person_18
  · subst hv
    have hf2 := Option.some.inj hf; subst hf2
    refine v_astore (pc := 13) [(4, _), (0, _), (1, _), (2, _), (3, _)] dL_person_13 (Nat.le_of_ble_eq_true rfl) rfl ?_
    refine v_iconst (pc := 15) (1 : Int32) dL_person_15 ci_1 ?_
    exact V_iret (pc := 16) hF dL_person_16
theorem wm_RL_15 : Cond.methodLink RL 15 yX10_mean ∈ gw ∧ Cond.instanceMethod yX10_mean ∈ gw ∧ Cond.selects RX10 yX10_mean yX10_mean ∈ gw ∧ Cond.initialized RX10 ∈ gw ∧ Cond.code yX10_mean cX10_mean 7 (some .int) ∈ gw := ⟨gw_at 1327 (by decide +kernel) rfl, gw_at 1328 (by decide +kernel) rfl, gw_at 1329 (by decide +kernel) rfl, gw_at 115 (by decide +kernel) rfl, gw_at 1330 (by decide +kernel) rfl⟩
theorem md_X10_mean : yX10_mean.cls = RX10 ∧ yX10_mean.cls ≠ "java/lang/invoke/MethodHandle" ∧ yX10_mean.cls ≠ "java/lang/invoke/VarHandle" ∧ (parseMethodDescriptor yX10_mean.desc).map (fun d => d.parameters.length) = some 2 := by decide +kernel
def pL_mean (V0 V2 V3 O : Ob) (a b : Int32) : Option (Int32 × Ob) :=
  gd (decide (oI O 1 = 1)) ((pX10_mean V0 V2 V3 a b).bind fun r => match r with
    | some v => some (0, sJ O 0 (va_up (oJ O 0) 0 v.toInt64))
    | none => some (1, O))
theorem kL_mean {G : Wc} {V0 V2 V3 O : Ob} {a b : Int32} {r : Int32 × Ob} (hf : pL_mean V0 V2 V3 O a b = some r) : CnW yL_mean cL_mean 5 [(0, 10, 13, 13)] 7 156 G [.ref (wA G 0 0), .int a, .int b, .ref (wA G 29 1)] [(0, V0), (2, V2), (3, V3), (29, O)] [(0, V0), (2, V2), (3, V3), (29, r.2)] (some (.int r.1)) := by
  refine V_methodW [(0, .ref (wA G 0 0)), (1, .int a), (2, .int b), (3, .ref (wA G 29 1))] (by decide) rfl (Nat.le_of_ble_eq_true rfl) rfl (fun Γ hF htab hc1 hs1 hnt => ?_)
  unfold pL_mean at hf
  replace hf := gd_some hf; obtain ⟨hO, hf⟩ := hf
  replace hO := of_decide_eq_true hO
  replace hf := bd_some hf; obtain ⟨r1, h1, hf⟩ := hf
  refine v_aload_n (pc := 0) 3 dL_mean_0 rfl ?_
  refine v_iconst (pc := 1) (0 : Int32) dL_mean_1 ci_0 ?_
  refine v_aload_n (pc := 2) 0 dL_mean_2 rfl ?_
  refine v_iload_n (pc := 3) 1 dL_mean_3 rfl ?_
  refine v_iload_n (pc := 4) 2 dL_mean_4 rfl ?_
  refine V_callX (pc := 5) (xe := ⟨0, 10, 13, 13⟩) (hpc := 13) (ct := 13) [0, 1, 2] 0 (kX10_mean h1) hnt rfl rfl rfl rfl (Nat.le_of_ble_eq_true rfl) rfl rfl rfl wm_RL_15 md_X10_mean (Nat.le_of_ble_eq_true rfl) (Nat.le_of_ble_eq_true rfl) rfl rfl (Nat.le_of_ble_eq_true rfl) dL_mean_5 htab rfl rfl (by decide) rfl nse_lw nse_cast hc1 hs1 (fun v hv => ?_) (fun hv q9 => ?_)
  · subst hv
    have hf2 := Option.some.inj hf; subst hf2
    refine v_i2l (pc := 8) dL_mean_8 ?_
    refine V_last (pc := 9) (us1 := [_, _, _, _]) (S1 := sJ O 0 (va_up (oJ O 0) (0 : Int32).toNatClampNeg v.toInt64)) 3 0 rfl rfl (Nat.le_of_ble_eq_true rfl) (uc_out hO) (by decide) (uc_outs hO _) rfl dL_mean_9 ?_
    refine v_goto (pc := 10) 17 dL_mean_10 (by decide) ?_
    refine v_iconst (pc := 17) (0 : Int32) dL_mean_17 ci_0 ?_
    exact V_iret (pc := 18) hF dL_mean_18
  · subst hv
    have hf2 := Option.some.inj hf; subst hf2
    refine v_astore (pc := 13) [(4, _), (0, _), (1, _), (2, _), (3, _)] dL_mean_13 (Nat.le_of_ble_eq_true rfl) rfl ?_
    refine v_iconst (pc := 15) (1 : Int32) dL_mean_15 ci_1 ?_
    exact V_iret (pc := 16) hF dL_mean_16
