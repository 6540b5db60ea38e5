def R_law : String := "CombedOutLaw"
def lw_P (b : Addr) (xs : List Int32) (args : Array Value) (s : State) : Prop := args = #[.ref b] ∧ s.IntsAt b xs ∧ xs.length ≤ 3072 ∧ (Jvm.Cond.and given_1 narrow_1).before args s = true
def lw_Q (_ : Array Value) (s : State) (o : Outcome) (t : State) : Prop := o = .returned (some (.int 1)) ∧ Framed s o t [] 601024 7293034
def lw_Z (below : List Frame) (a : Array Value) (s : State) : State → Prop := fun t => ∃ o, t.status = .running ∧ Ended t below o ∧ lw_Q a s o t
/-- the law's own end, with 1 on the stack, nothing written that was there before, its room as the claim has it -/
theorem lw_ret {p : Program} {l : Launch} {e : Env} {s : State} {m : MethodId} {below : List Frame} {meth : Method} {c : Code} {b : Nat} (hx : p.tables.exec = Jvm.exec) (hb : c.code = code) (hr : meth.sig.returnType = ret) (hlocks : meth.locks = false) {pc : Nat} {H : Heap} {ls : Array Slot} (hdg : decode code pc = .ok (.ireturn, 1)) : W p l e room_1 s m #[Value.ref b] below meth c H [] 601024 7293034 (lw_Z below #[Value.ref b] s) (F0 m pc ls [.int 1]) := by
  intro T hT X
  obtain ⟨fs, hret, hrun, hended, hW, hframe⟩ := X.leave (v := some (.int 1)) (hlocks := hlocks) (fun h => by rw [hr] at h; cases h)
  have hmeth' : T.vm.method? m = some meth := X.method'
  refine ⟨T.setFrames fs, ?_, .returned (some (.int 1)), hrun, hended, rfl, ⟨_, rfl⟩, hW, hframe⟩
  jvm_step X.here [X.here.top, hx, hb, hdg, hmeth', hr, ret, narrow_b1]
  (try refine ⟨rfl, ?_⟩); (try refine ⟨rfl, ?_⟩)
  first | (intro acts; rw [hret _ acts rfl rfl rfl]) | rw [hret _ _ rfl rfl rfl]
  exact Steps.refl _
/-- what holds at the law's entry: the machine, the code, the tables' words (any of lw_tbl by 'hts w (by decide +kernel)'), the script of L ints xs at the cell b, what the Statement gives of the start (any of its parts by flat_of_before) -/
def lw_At (p : Program) (s : State) (m : MethodId) (meth : Method) (c : Code) (b L : Nat) (xs : Nat → Int32) : Prop :=
  p.tables.exec = Jvm.exec ∧ c.code = code ∧ meth.sig.returnType = ret ∧ c.maxLocals = 7 ∧ s.vm.findClass R_law = some m.cls ∧ (∀ w ∈ lw_tbl, w.before #[Value.ref b] s = true) ∧ va_X b L xs s s.heap ∧ b < s.heap.size ∧ meth.locks = false ∧ (Jvm.Cond.and given_1 narrow_1).before #[Value.ref b] s = true
/-- what the law's walk needs of its place -/
def FnlL (G : Wc) (b Ln : Nat) (xs : Nat → Int32) (Γ : Cx) : Prop :=
  Γ.2.1.2.2.2.1.sig.returnType = ret ∧ Γ.2.2.1.2.2 = lw_Z Γ.2.1.2.2.1 #[Value.ref b] Γ.1.2.2.2.2 ∧ Γ.2.1.2.1 = #[Value.ref b] ∧ va_X b Ln xs Γ.1.2.2.2.2 Γ.1.2.2.2.2.heap ∧ b < Γ.1.2.2.2.2.heap.size ∧ wZ G = Γ.1.2.2.2.2.heap.size ∧ Γ.1.2.2.2.1 = room_1 ∧ (wL G).stackTraces = false
def bdg (n : Nat) (Γ : Cx) : Prop := Γ.2.2.1.1 + n ≤ Γ.1.2.2.2.1.cells ∧ Γ.2.2.1.2.1 + 6 * n ≤ Γ.1.2.2.2.1.slots
theorem bdg_s {n : Nat} {Γ : Cx} (h : bdg (n + 1) Γ) : bdg n Γ := ⟨Nat.le_trans (by omega) h.1, Nat.le_trans (by omega) h.2⟩
theorem bdg_gx {n : Nat} {Γ : Cx} (h : bdg (n + 1) Γ) : bdg n (gx Γ 1 6) := ⟨Nat.le_trans (by show Γ.2.2.1.1 + 1 + n ≤ _; omega) h.1, Nat.le_trans (by show Γ.2.2.1.2.1 + 6 + 6 * n ≤ _; omega) h.2⟩
theorem FnlL_gx {G : Wc} {b Ln : Nat} {xs : Nat → Int32} {Γ : Cx} (h : FnlL G b Ln xs Γ) : FnlL G b Ln xs (gx Γ 1 6) := h
theorem V_sld {cc : ByteArray} {own : String} {fr lo nL : Nat} {G : Wc} {Γ : Cx} {us : List (Nat × Ob)} {pc : Nat} {L : List (Nat × Value)} {st : List Value} {b Ln : Nat} {xs : Nat → Int32} {i : Int32} (hF : FnlL G b Ln xs Γ) (hin : inB i Ln = true) (d : decode cc pc = .ok (.iaload, 1)) (kk : V cc own fr lo nL G Γ us (pc + 1) L (.int (xs i.toNatClampNeg) :: st)) : V cc own fr lo nL G Γ us pc L (.int i :: .ref b :: st) := by
  intro ok hn H locs ls hP hS hl
  obtain ⟨-, -, -, hX, hbl, hz, -⟩ := hF
  exact va_sld ok.1 ok.2.1 hX hbl (by show ¬ wZ G ≤ b; rw [hz]; omega) hS (inB_in hin) d (kk ok hn H locs ls hP hS hl)
theorem V_slen {cc : ByteArray} {own : String} {fr lo nL : Nat} {G : Wc} {Γ : Cx} {us : List (Nat × Ob)} {pc : Nat} {L : List (Nat × Value)} {st : List Value} {b Ln : Nat} {xs : Nat → Int32} (hF : FnlL G b Ln xs Γ) (d : decode cc pc = .ok (.arraylength, 1)) (kk : V cc own fr lo nL G Γ us (pc + 1) L (.int (Int32.ofNat Ln) :: st)) : V cc own fr lo nL G Γ us pc L (.ref b :: st) := by
  intro ok hn H locs ls hP hS hl
  obtain ⟨-, -, -, hX, hbl, hz, -⟩ := hF
  exact va_slen ok.1 ok.2.1 hX hbl (by show ¬ wZ G ≤ b; rw [hz]; omega) hS d (kk ok hn H locs ls hP hS hl)
theorem V_lawret {own : String} {fr lo nL : Nat} {G : Wc} {Γ : Cx} {us : List (Nat × Ob)} {pc : Nat} {L : List (Nat × Value)} {b Ln : Nat} {xs : Nat → Int32} (hF : FnlL G b Ln xs Γ) (d : decode code pc = .ok (.ireturn, 1)) : V code own fr lo nL G Γ us pc L [.int 1] := by
  intro ok hn H locs ls hP hS hl
  obtain ⟨hr, hQ, ha, hX, hbl, hz, hR, -⟩ := hF
  obtain ⟨hx, hb, hml, hown, hts, hlk, hRm, hcs, hK, hNw, hst0, hD, hz0, hL⟩ := ok
  rw [hQ, ha]
  refine va_forget (fun q hq => by rw [← hz]; exact hS.2.2 q hq) ?_
  rw [hR] at hcs ⊢
  exact W.widen (k := 601024) (n := 7293034) hcs.1 hcs.2 (lw_ret hx hb hr hlk d)
theorem V_callSW {cc : ByteArray} {own : String} {fr lo nL : Nat} {G : Wc} {Γ : Cx} {us : List (Nat × Ob)} {pc : Nat} {L : List (Nat × Value)} {st : List Value} {us1 cu cu1 : List (Nat × Ob)} {y : MethodName} {bytes : ByteArray} {maxL fr1 lo1 n index : Nat} {hh : List (Nat × Nat × Nat × Nat)} {As rest : List Value} {r : Option Value} (is : List Nat)
    (hM : CnW y bytes maxL hh fr1 lo1 G As cu cu1 r) (hnt : (wL G).stackTraces = false) (hsel : is.map (fun i => us[i]?) = cu.map some) (hids : cu1.map (fun q => q.1) = cu.map (fun q => q.1)) (hnd : va_nd is = true) (hus : putL us is cu1 = us1)
    (hw : Cond.methodLink own index y ∈ gw ∧ Cond.static y ∈ gw ∧ Cond.initialized y.cls ∈ gw ∧ Cond.codeWith y bytes maxL (some .int) hh ∈ gw)
    (hd : y.cls ≠ "java/lang/invoke/MethodHandle" ∧ y.cls ≠ "java/lang/invoke/VarHandle" ∧ (parseMethodDescriptor y.desc).map (fun d => d.parameters.length) = some n)
    (hfr : fr1 + 1 ≤ fr) (hlo : 8 + (maxL + 11) + lo1 ≤ lo) (hAs : As.length = n) (hst : st = As.reverse ++ rest) (hrm : (rest.map fun v => v.category).sum ≤ 8) (d : decode cc pc = .ok (.invokestatic index, 3)) (hc1 : Γ.2.2.1.1 + 1 ≤ Γ.1.2.2.2.1.cells) (hs1 : Γ.2.2.1.2.1 + 6 ≤ Γ.1.2.2.2.1.slots)
    (kk : V cc own fr lo nL G (gx Γ 1 6) us1 (pc + 3) L (r.toList ++ rest)) : V cc own fr lo nL G Γ us pc L st := by
  intro ok hn H locs ls hP hS hl
  subst hus
  have okg := ok_gx ok hc1 hs1
  obtain ⟨hx, hb, hml, hown, hts, hlk, hRm, hcs, hK, hNw, hst0, hD, hz, hL⟩ := ok
  obtain ⟨n1, e1⟩ := ov_put (h := Γ.2.2.2) is hn (nd_sub hn is hnd hsel) hsel hids
  have hcu : ∀ q ∈ cu, ov Γ.2.2.2 us q.1 = q.2 := by
    intro q hq
    have h3 : (some q) ∈ is.map (fun i => us[i]?) := by rw [hsel]; exact List.mem_map_of_mem hq
    obtain ⟨j, hj, hj2⟩ := List.mem_map.mp h3
    exact ov_at hn (List.mem_of_getElem? hj2)
  have hMet := hM hnt (nd_sub hn is hnd hsel) (ov Γ.2.2.2 us) hcu
  rw [← hL] at hMet
  have hgood : GoodIn (Cond.codeWith y bytes maxL (some .int) hh :: gw) (va_wsS own index y (Cond.codeWith y bytes maxL (some .int) hh :: gw)) := by
    intro w hw'
    have hmem : w ∈ gw := by
      rcases List.mem_append.mp hw' with h | h
      · simp only [List.mem_cons, List.not_mem_nil, or_false] at h
        rcases h with rfl | rfl | rfl
        · exact hw.1
        · exact hw.2.1
        · exact hw.2.2.1
      · rcases List.mem_cons.mp h with rfl | h
        · exact hw.2.2.2
        · exact h
    exact ⟨List.mem_cons_of_mem _ hmem, good_of_word (gw_good hmem)⟩
  have hts' : ∀ w ∈ Cond.codeWith y bytes maxL (some .int) hh :: gw, w.before Γ.2.1.2.1 Γ.1.2.2.2.2 = true := by
    intro w hw'
    rcases List.mem_cons.mp hw' with rfl | h
    · exact hts _ hw.2.2.2
    · exact hts _ h
  have cw := vx_cwSW (R := Γ.1.2.2.2.1) (rm := rmX fr1 lo1) (mc := 1) (ms := 6) n hts' hgood rfl rfl rfl hd ⟨Nat.le_trans hfr hRm.1, Nat.le_trans hlo hRm.2⟩
  have hpre : PreS Γ.1.2.2.2.2 H (va_Pc As (Wd G (ov Γ.2.2.2 us))) As := by
    refine ⟨fun a U g mk z => ⟨z.1, z.2.1, va_K.moved (Vm.Alike.refl U.vm) z.2.2.1, nwAll.same (u := U) rfl z.2.2.2.1, stF.moved (Vm.Alike.refl U.vm) z.2.2.2.2.1, z.2.2.2.2.2⟩, fun U hU hW => ⟨rfl, by rw [hU]; exact hP, va_K.moved hW.alike hK, nwAll.warm hW hNw, ?_, hD, by rw [hU]; exact Nat.le_trans hz hS.1⟩⟩
    rw [hU]; exact stF.moved hW.alike (stF.kept hst0 (fun a h1 h2 => hS.2.1 a h1 h2))
  have hrun := vx_runSW (p := Γ.1.1) (e := Γ.1.2.2.1) (below := Γ.2.1.2.2.1) (meth := Γ.2.1.2.2.2.1) (locs := locs) (cells := Γ.2.2.1.1) (slots := Γ.2.2.1.2.1) (g := F0 Γ.2.1.1 pc ls st) (rest := rest) ⟨hx, hb, hml, hown, hts'⟩ hMet cw hpre rfl hAs hl.1 hst (lv_room hrm) d ⟨hc1, hs1⟩
  intro T hT X
  obtain ⟨v, st₀, t, T', Ls, h0, X', hLs, e2, e3, ⟨hv, hWd, hF⟩, hgo⟩ := hrun T hT X
  cases hv
  have hS' : va_S (wF G) Γ.1.2.2.2.2.heap T'.heap (locs ++ Ls) := by
    have hF2 := hF
    unfold va_F at hF2
    rw [h0] at hF2
    refine ⟨Nat.le_trans hS.1 (by rw [e2]; exact hF2.1), fun a h1 h2 => by rw [e2, hF2.2 a (Nat.lt_of_lt_of_le h1 hS.1) h2]; exact hS.2.1 a h1 h2, fun a ha => ?_⟩
    rcases List.mem_append.mp ha with h | h
    · exact hS.2.2 a h
    · exact hLs a h
  obtain ⟨t2, a1, b1⟩ := kk okg n1 T'.heap (locs ++ Ls) ls (by rw [e2]; show va_P (wD G) vwCl (allc G (ov Γ.2.2.2 (putL us is cu1))) t.heap; rw [e1]; exact hWd.1) hS' hl T' rfl X'
  exact ⟨t2, hgo t2 a1, b1⟩
theorem ci_6 : Int32.ofInt (6) = (6 : Int32) := by decide
theorem wx_558 : Cond.instanceMethod yX10_feed ∈ gw := gw_at 558 (by decide +kernel) rfl
theorem wx_559 : Cond.selects RX10 yX10_feed yX10_feed ∈ gw := gw_at 559 (by decide +kernel) rfl
theorem wx_560 : Cond.code yX10_feed cX10_feed 6 (some .int) ∈ gw := gw_at 560 (by decide +kernel) rfl
theorem wm_RL_22 : Cond.methodLink RL 22 yX10_feed ∈ gw ∧ Cond.instanceMethod yX10_feed ∈ gw ∧ Cond.selects RX10 yX10_feed yX10_feed ∈ gw ∧ Cond.initialized RX10 ∈ gw ∧ Cond.code yX10_feed cX10_feed 6 (some .int) ∈ gw := ⟨gw_at 557 (by decide +kernel) rfl, wx_558, wx_559, wx_113, wx_560⟩
theorem wx_1325 : Cond.instanceMethod yX11_feed ∈ gw := gw_at 1325 (by decide +kernel) rfl
theorem wx_1326 : Cond.selects RX11 yX11_feed yX11_feed ∈ gw := gw_at 1326 (by decide +kernel) rfl
theorem wx_1327 : Cond.code yX11_feed cX11_feed 6 (some .int) ∈ gw := gw_at 1327 (by decide +kernel) rfl
theorem wm_RL_26 : Cond.methodLink RL 26 yX11_feed ∈ gw ∧ Cond.instanceMethod yX11_feed ∈ gw ∧ Cond.selects RX11 yX11_feed yX11_feed ∈ gw ∧ Cond.initialized RX11 ∈ gw ∧ Cond.code yX11_feed cX11_feed 6 (some .int) ∈ gw := ⟨gw_at 1324 (by decide +kernel) rfl, wx_1325, wx_1326, wx_123, wx_1327⟩
theorem wx_566 : Cond.instanceMethod yX10_end ∈ gw := gw_at 566 (by decide +kernel) rfl
theorem wx_567 : Cond.selects RX10 yX10_end yX10_end ∈ gw := gw_at 567 (by decide +kernel) rfl
theorem wx_568 : Cond.code yX10_end cX10_end 2 (some .boolean) ∈ gw := gw_at 568 (by decide +kernel) rfl
theorem wm_RL_27 : Cond.methodLink RL 27 yX10_end ∈ gw ∧ Cond.instanceMethod yX10_end ∈ gw ∧ Cond.selects RX10 yX10_end yX10_end ∈ gw ∧ Cond.initialized RX10 ∈ gw ∧ Cond.code yX10_end cX10_end 2 (some .boolean) ∈ gw := ⟨gw_at 565 (by decide +kernel) rfl, wx_566, wx_567, wx_113, wx_568⟩
theorem wx_1334 : Cond.instanceMethod yX11_end ∈ gw := gw_at 1334 (by decide +kernel) rfl
theorem wx_1335 : Cond.selects RX11 yX11_end yX11_end ∈ gw := gw_at 1335 (by decide +kernel) rfl
theorem wx_1336 : Cond.code yX11_end cX11_end 2 (some .boolean) ∈ gw := gw_at 1336 (by decide +kernel) rfl
theorem wm_RL_31 : Cond.methodLink RL 31 yX11_end ∈ gw ∧ Cond.instanceMethod yX11_end ∈ gw ∧ Cond.selects RX11 yX11_end yX11_end ∈ gw ∧ Cond.initialized RX11 ∈ gw ∧ Cond.code yX11_end cX11_end 2 (some .boolean) ∈ gw := ⟨gw_at 1333 (by decide +kernel) rfl, wx_1334, wx_1335, wx_123, wx_1336⟩
theorem wx_570 : Cond.instanceMethod yX10_quarter ∈ gw := gw_at 570 (by decide +kernel) rfl
theorem wx_571 : Cond.selects RX10 yX10_quarter yX10_quarter ∈ gw := gw_at 571 (by decide +kernel) rfl
theorem wx_572 : Cond.code yX10_quarter cX10_quarter 2 (some .int) ∈ gw := gw_at 572 (by decide +kernel) rfl
theorem wm_RL_32 : Cond.methodLink RL 32 yX10_quarter ∈ gw ∧ Cond.instanceMethod yX10_quarter ∈ gw ∧ Cond.selects RX10 yX10_quarter yX10_quarter ∈ gw ∧ Cond.initialized RX10 ∈ gw ∧ Cond.code yX10_quarter cX10_quarter 2 (some .int) ∈ gw := ⟨gw_at 569 (by decide +kernel) rfl, wx_570, wx_571, wx_113, wx_572⟩
theorem wx_1518 : Cond.instanceMethod yX11_quarter ∈ gw := gw_at 1518 (by decide +kernel) rfl
theorem wx_1519 : Cond.selects RX11 yX11_quarter yX11_quarter ∈ gw := gw_at 1519 (by decide +kernel) rfl
theorem wx_1520 : Cond.code yX11_quarter cX11_quarter 2 (some .int) ∈ gw := gw_at 1520 (by decide +kernel) rfl
theorem wm_RL_36 : Cond.methodLink RL 36 yX11_quarter ∈ gw ∧ Cond.instanceMethod yX11_quarter ∈ gw ∧ Cond.selects RX11 yX11_quarter yX11_quarter ∈ gw ∧ Cond.initialized RX11 ∈ gw ∧ Cond.code yX11_quarter cX11_quarter 2 (some .int) ∈ gw := ⟨gw_at 1517 (by decide +kernel) rfl, wx_1518, wx_1519, wx_123, wx_1520⟩
theorem wx_710 : Cond.instanceMethod yX10_fault ∈ gw := gw_at 710 (by decide +kernel) rfl
theorem wx_711 : Cond.selects RX10 yX10_fault yX10_fault ∈ gw := gw_at 711 (by decide +kernel) rfl
theorem wx_712 : Cond.code yX10_fault cX10_fault 1 (some .int) ∈ gw := gw_at 712 (by decide +kernel) rfl
theorem wm_RL_37 : Cond.methodLink RL 37 yX10_fault ∈ gw ∧ Cond.instanceMethod yX10_fault ∈ gw ∧ Cond.selects RX10 yX10_fault yX10_fault ∈ gw ∧ Cond.initialized RX10 ∈ gw ∧ Cond.code yX10_fault cX10_fault 1 (some .int) ∈ gw := ⟨gw_at 709 (by decide +kernel) rfl, wx_710, wx_711, wx_113, wx_712⟩
theorem wx_1611 : Cond.instanceMethod yX11_fault ∈ gw := gw_at 1611 (by decide +kernel) rfl
theorem wx_1612 : Cond.selects RX11 yX11_fault yX11_fault ∈ gw := gw_at 1612 (by decide +kernel) rfl
theorem wx_1613 : Cond.code yX11_fault cX11_fault 1 (some .int) ∈ gw := gw_at 1613 (by decide +kernel) rfl
theorem wm_RL_40 : Cond.methodLink RL 40 yX11_fault ∈ gw ∧ Cond.instanceMethod yX11_fault ∈ gw ∧ Cond.selects RX11 yX11_fault yX11_fault ∈ gw ∧ Cond.initialized RX11 ∈ gw ∧ Cond.code yX11_fault cX11_fault 1 (some .int) ∈ gw := ⟨gw_at 1610 (by decide +kernel) rfl, wx_1611, wx_1612, wx_123, wx_1613⟩
theorem wx_1615 : Cond.instanceMethod yX11_person ∈ gw := gw_at 1615 (by decide +kernel) rfl
theorem wx_1616 : Cond.selects RX11 yX11_person yX11_person ∈ gw := gw_at 1616 (by decide +kernel) rfl
theorem wx_1617 : Cond.code yX11_person cX11_person 3 (some .int) ∈ gw := gw_at 1617 (by decide +kernel) rfl
theorem wm_RL_46 : Cond.methodLink RL 46 yX11_person ∈ gw ∧ Cond.instanceMethod yX11_person ∈ gw ∧ Cond.selects RX11 yX11_person yX11_person ∈ gw ∧ Cond.initialized RX11 ∈ gw ∧ Cond.code yX11_person cX11_person 3 (some .int) ∈ gw := ⟨gw_at 1614 (by decide +kernel) rfl, wx_1615, wx_1616, wx_123, wx_1617⟩
theorem wx_1321 : Cond.instanceMethod yX11_thrown ∈ gw := gw_at 1321 (by decide +kernel) rfl
theorem wx_1322 : Cond.selects RX11 yX11_thrown yX11_thrown ∈ gw := gw_at 1322 (by decide +kernel) rfl
theorem wx_1323 : Cond.code yX11_thrown cX11_thrown 1 (some .int) ∈ gw := gw_at 1323 (by decide +kernel) rfl
theorem wm_RL_47 : Cond.methodLink RL 47 yX11_thrown ∈ gw ∧ Cond.instanceMethod yX11_thrown ∈ gw ∧ Cond.selects RX11 yX11_thrown yX11_thrown ∈ gw ∧ Cond.initialized RX11 ∈ gw ∧ Cond.code yX11_thrown cX11_thrown 1 (some .int) ∈ gw := ⟨gw_at 1320 (by decide +kernel) rfl, wx_1321, wx_1322, wx_123, wx_1323⟩
theorem wx_714 : Cond.instanceMethod yX10_layer ∈ gw := gw_at 714 (by decide +kernel) rfl
theorem wx_715 : Cond.selects RX10 yX10_layer yX10_layer ∈ gw := gw_at 715 (by decide +kernel) rfl
theorem wx_716 : Cond.code yX10_layer cX10_layer 3 (some .int) ∈ gw := gw_at 716 (by decide +kernel) rfl
theorem wm_RL_50 : Cond.methodLink RL 50 yX10_layer ∈ gw ∧ Cond.instanceMethod yX10_layer ∈ gw ∧ Cond.selects RX10 yX10_layer yX10_layer ∈ gw ∧ Cond.initialized RX10 ∈ gw ∧ Cond.code yX10_layer cX10_layer 3 (some .int) ∈ gw := ⟨gw_at 713 (by decide +kernel) rfl, wx_714, wx_715, wx_113, wx_716⟩
theorem wx_1651 : Cond.instanceMethod yX11_layer ∈ gw := gw_at 1651 (by decide +kernel) rfl
theorem wx_1652 : Cond.selects RX11 yX11_layer yX11_layer ∈ gw := gw_at 1652 (by decide +kernel) rfl
theorem wx_1653 : Cond.code yX11_layer cX11_layer 3 (some .int) ∈ gw := gw_at 1653 (by decide +kernel) rfl
theorem wm_RL_53 : Cond.methodLink RL 53 yX11_layer ∈ gw ∧ Cond.instanceMethod yX11_layer ∈ gw ∧ Cond.selects RX11 yX11_layer yX11_layer ∈ gw ∧ Cond.initialized RX11 ∈ gw ∧ Cond.code yX11_layer cX11_layer 3 (some .int) ∈ gw := ⟨gw_at 1650 (by decide +kernel) rfl, wx_1651, wx_1652, wx_123, wx_1653⟩
theorem wx_726 : Cond.instanceMethod yX10_thing ∈ gw := gw_at 726 (by decide +kernel) rfl
theorem wx_727 : Cond.selects RX10 yX10_thing yX10_thing ∈ gw := gw_at 727 (by decide +kernel) rfl
theorem wx_728 : Cond.code yX10_thing cX10_thing 3 (some .int) ∈ gw := gw_at 728 (by decide +kernel) rfl
theorem wm_RL_54 : Cond.methodLink RL 54 yX10_thing ∈ gw ∧ Cond.instanceMethod yX10_thing ∈ gw ∧ Cond.selects RX10 yX10_thing yX10_thing ∈ gw ∧ Cond.initialized RX10 ∈ gw ∧ Cond.code yX10_thing cX10_thing 3 (some .int) ∈ gw := ⟨gw_at 725 (by decide +kernel) rfl, wx_726, wx_727, wx_113, wx_728⟩
theorem wx_1655 : Cond.instanceMethod yX11_thing ∈ gw := gw_at 1655 (by decide +kernel) rfl
theorem wx_1656 : Cond.selects RX11 yX11_thing yX11_thing ∈ gw := gw_at 1656 (by decide +kernel) rfl
theorem wx_1657 : Cond.code yX11_thing cX11_thing 5 (some .int) ∈ gw := gw_at 1657 (by decide +kernel) rfl
theorem wm_RL_57 : Cond.methodLink RL 57 yX11_thing ∈ gw ∧ Cond.instanceMethod yX11_thing ∈ gw ∧ Cond.selects RX11 yX11_thing yX11_thing ∈ gw ∧ Cond.initialized RX11 ∈ gw ∧ Cond.code yX11_thing cX11_thing 5 (some .int) ∈ gw := ⟨gw_at 1654 (by decide +kernel) rfl, wx_1655, wx_1656, wx_123, wx_1657⟩
theorem wx_747 : Cond.instanceMethod yX10_bed ∈ gw := gw_at 747 (by decide +kernel) rfl
theorem wx_748 : Cond.selects RX10 yX10_bed yX10_bed ∈ gw := gw_at 748 (by decide +kernel) rfl
theorem wx_749 : Cond.code yX10_bed cX10_bed 3 (some .int) ∈ gw := gw_at 749 (by decide +kernel) rfl
theorem wm_RL_58 : Cond.methodLink RL 58 yX10_bed ∈ gw ∧ Cond.instanceMethod yX10_bed ∈ gw ∧ Cond.selects RX10 yX10_bed yX10_bed ∈ gw ∧ Cond.initialized RX10 ∈ gw ∧ Cond.code yX10_bed cX10_bed 3 (some .int) ∈ gw := ⟨gw_at 746 (by decide +kernel) rfl, wx_747, wx_748, wx_113, wx_749⟩
theorem wx_1671 : Cond.instanceMethod yX11_bed ∈ gw := gw_at 1671 (by decide +kernel) rfl
theorem wx_1672 : Cond.selects RX11 yX11_bed yX11_bed ∈ gw := gw_at 1672 (by decide +kernel) rfl
theorem wx_1673 : Cond.code yX11_bed cX11_bed 3 (some .int) ∈ gw := gw_at 1673 (by decide +kernel) rfl
theorem wm_RL_61 : Cond.methodLink RL 61 yX11_bed ∈ gw ∧ Cond.instanceMethod yX11_bed ∈ gw ∧ Cond.selects RX11 yX11_bed yX11_bed ∈ gw ∧ Cond.initialized RX11 ∈ gw ∧ Cond.code yX11_bed cX11_bed 3 (some .int) ∈ gw := ⟨gw_at 1670 (by decide +kernel) rfl, wx_1671, wx_1672, wx_123, wx_1673⟩
theorem wx_759 : Cond.instanceMethod yX10_now ∈ gw := gw_at 759 (by decide +kernel) rfl
theorem wx_760 : Cond.selects RX10 yX10_now yX10_now ∈ gw := gw_at 760 (by decide +kernel) rfl
theorem wx_761 : Cond.code yX10_now cX10_now 2 (some .int) ∈ gw := gw_at 761 (by decide +kernel) rfl
theorem wm_RL_62 : Cond.methodLink RL 62 yX10_now ∈ gw ∧ Cond.instanceMethod yX10_now ∈ gw ∧ Cond.selects RX10 yX10_now yX10_now ∈ gw ∧ Cond.initialized RX10 ∈ gw ∧ Cond.code yX10_now cX10_now 2 (some .int) ∈ gw := ⟨gw_at 758 (by decide +kernel) rfl, wx_759, wx_760, wx_113, wx_761⟩
theorem wx_1683 : Cond.instanceMethod yX11_now ∈ gw := gw_at 1683 (by decide +kernel) rfl
theorem wx_1684 : Cond.selects RX11 yX11_now yX11_now ∈ gw := gw_at 1684 (by decide +kernel) rfl
theorem wx_1685 : Cond.code yX11_now cX11_now 4 (some .int) ∈ gw := gw_at 1685 (by decide +kernel) rfl
theorem wm_RL_66 : Cond.methodLink RL 66 yX11_now ∈ gw ∧ Cond.instanceMethod yX11_now ∈ gw ∧ Cond.selects RX11 yX11_now yX11_now ∈ gw ∧ Cond.initialized RX11 ∈ gw ∧ Cond.code yX11_now cX11_now 4 (some .int) ∈ gw := ⟨gw_at 1682 (by decide +kernel) rfl, wx_1683, wx_1684, wx_123, wx_1685⟩
theorem wx_773 : Cond.instanceMethod yX10_stroke ∈ gw := gw_at 773 (by decide +kernel) rfl
theorem wx_774 : Cond.selects RX10 yX10_stroke yX10_stroke ∈ gw := gw_at 774 (by decide +kernel) rfl
theorem wx_775 : Cond.code yX10_stroke cX10_stroke 4 (some .int) ∈ gw := gw_at 775 (by decide +kernel) rfl
theorem wm_RL_67 : Cond.methodLink RL 67 yX10_stroke ∈ gw ∧ Cond.instanceMethod yX10_stroke ∈ gw ∧ Cond.selects RX10 yX10_stroke yX10_stroke ∈ gw ∧ Cond.initialized RX10 ∈ gw ∧ Cond.code yX10_stroke cX10_stroke 4 (some .int) ∈ gw := ⟨gw_at 772 (by decide +kernel) rfl, wx_773, wx_774, wx_113, wx_775⟩
theorem wx_1695 : Cond.instanceMethod yX11_stroke ∈ gw := gw_at 1695 (by decide +kernel) rfl
theorem wx_1696 : Cond.selects RX11 yX11_stroke yX11_stroke ∈ gw := gw_at 1696 (by decide +kernel) rfl
theorem wx_1697 : Cond.code yX11_stroke cX11_stroke 4 (some .int) ∈ gw := gw_at 1697 (by decide +kernel) rfl
theorem wm_RL_70 : Cond.methodLink RL 70 yX11_stroke ∈ gw ∧ Cond.instanceMethod yX11_stroke ∈ gw ∧ Cond.selects RX11 yX11_stroke yX11_stroke ∈ gw ∧ Cond.initialized RX11 ∈ gw ∧ Cond.code yX11_stroke cX11_stroke 4 (some .int) ∈ gw := ⟨gw_at 1694 (by decide +kernel) rfl, wx_1695, wx_1696, wx_123, wx_1697⟩
theorem wx_812 : Cond.instanceMethod yX10_cut ∈ gw := gw_at 812 (by decide +kernel) rfl
theorem wx_813 : Cond.selects RX10 yX10_cut yX10_cut ∈ gw := gw_at 813 (by decide +kernel) rfl
theorem wx_814 : Cond.code yX10_cut cX10_cut 3 (some .int) ∈ gw := gw_at 814 (by decide +kernel) rfl
theorem wm_RL_71 : Cond.methodLink RL 71 yX10_cut ∈ gw ∧ Cond.instanceMethod yX10_cut ∈ gw ∧ Cond.selects RX10 yX10_cut yX10_cut ∈ gw ∧ Cond.initialized RX10 ∈ gw ∧ Cond.code yX10_cut cX10_cut 3 (some .int) ∈ gw := ⟨gw_at 811 (by decide +kernel) rfl, wx_812, wx_813, wx_113, wx_814⟩
theorem wx_1718 : Cond.instanceMethod yX11_cut ∈ gw := gw_at 1718 (by decide +kernel) rfl
theorem wx_1719 : Cond.selects RX11 yX11_cut yX11_cut ∈ gw := gw_at 1719 (by decide +kernel) rfl
theorem wx_1720 : Cond.code yX11_cut cX11_cut 2 (some .int) ∈ gw := gw_at 1720 (by decide +kernel) rfl
theorem wm_RL_74 : Cond.methodLink RL 74 yX11_cut ∈ gw ∧ Cond.instanceMethod yX11_cut ∈ gw ∧ Cond.selects RX11 yX11_cut yX11_cut ∈ gw ∧ Cond.initialized RX11 ∈ gw ∧ Cond.code yX11_cut cX11_cut 2 (some .int) ∈ gw := ⟨gw_at 1717 (by decide +kernel) rfl, wx_1718, wx_1719, wx_123, wx_1720⟩
theorem wx_824 : Cond.instanceMethod yX10_snag ∈ gw := gw_at 824 (by decide +kernel) rfl
theorem wx_825 : Cond.selects RX10 yX10_snag yX10_snag ∈ gw := gw_at 825 (by decide +kernel) rfl
theorem wx_826 : Cond.code yX10_snag cX10_snag 4 (some .int) ∈ gw := gw_at 826 (by decide +kernel) rfl
theorem wm_RL_75 : Cond.methodLink RL 75 yX10_snag ∈ gw ∧ Cond.instanceMethod yX10_snag ∈ gw ∧ Cond.selects RX10 yX10_snag yX10_snag ∈ gw ∧ Cond.initialized RX10 ∈ gw ∧ Cond.code yX10_snag cX10_snag 4 (some .int) ∈ gw := ⟨gw_at 823 (by decide +kernel) rfl, wx_824, wx_825, wx_113, wx_826⟩
theorem wx_1726 : Cond.instanceMethod yX11_snag ∈ gw := gw_at 1726 (by decide +kernel) rfl
theorem wx_1727 : Cond.selects RX11 yX11_snag yX11_snag ∈ gw := gw_at 1727 (by decide +kernel) rfl
theorem wx_1728 : Cond.code yX11_snag cX11_snag 3 (some .int) ∈ gw := gw_at 1728 (by decide +kernel) rfl
theorem wm_RL_78 : Cond.methodLink RL 78 yX11_snag ∈ gw ∧ Cond.instanceMethod yX11_snag ∈ gw ∧ Cond.selects RX11 yX11_snag yX11_snag ∈ gw ∧ Cond.initialized RX11 ∈ gw ∧ Cond.code yX11_snag cX11_snag 3 (some .int) ∈ gw := ⟨gw_at 1725 (by decide +kernel) rfl, wx_1726, wx_1727, wx_123, wx_1728⟩
theorem wx_833 : Cond.instanceMethod yX10_stuff ∈ gw := gw_at 833 (by decide +kernel) rfl
theorem wx_834 : Cond.selects RX10 yX10_stuff yX10_stuff ∈ gw := gw_at 834 (by decide +kernel) rfl
theorem wx_835 : Cond.code yX10_stuff cX10_stuff 4 (some .int) ∈ gw := gw_at 835 (by decide +kernel) rfl
theorem wm_RL_79 : Cond.methodLink RL 79 yX10_stuff ∈ gw ∧ Cond.instanceMethod yX10_stuff ∈ gw ∧ Cond.selects RX10 yX10_stuff yX10_stuff ∈ gw ∧ Cond.initialized RX10 ∈ gw ∧ Cond.code yX10_stuff cX10_stuff 4 (some .int) ∈ gw := ⟨gw_at 832 (by decide +kernel) rfl, wx_833, wx_834, wx_113, wx_835⟩
theorem wx_1734 : Cond.instanceMethod yX11_stuff ∈ gw := gw_at 1734 (by decide +kernel) rfl
theorem wx_1735 : Cond.selects RX11 yX11_stuff yX11_stuff ∈ gw := gw_at 1735 (by decide +kernel) rfl
theorem wx_1736 : Cond.code yX11_stuff cX11_stuff 3 (some .int) ∈ gw := gw_at 1736 (by decide +kernel) rfl
theorem wm_RL_82 : Cond.methodLink RL 82 yX11_stuff ∈ gw ∧ Cond.instanceMethod yX11_stuff ∈ gw ∧ Cond.selects RX11 yX11_stuff yX11_stuff ∈ gw ∧ Cond.initialized RX11 ∈ gw ∧ Cond.code yX11_stuff cX11_stuff 3 (some .int) ∈ gw := ⟨gw_at 1733 (by decide +kernel) rfl, wx_1734, wx_1735, wx_123, wx_1736⟩
theorem wx_845 : Cond.instanceMethod yX10_days ∈ gw := gw_at 845 (by decide +kernel) rfl
theorem wx_846 : Cond.selects RX10 yX10_days yX10_days ∈ gw := gw_at 846 (by decide +kernel) rfl
theorem wx_847 : Cond.code yX10_days cX10_days 3 (some .int) ∈ gw := gw_at 847 (by decide +kernel) rfl
theorem wm_RL_83 : Cond.methodLink RL 83 yX10_days ∈ gw ∧ Cond.instanceMethod yX10_days ∈ gw ∧ Cond.selects RX10 yX10_days yX10_days ∈ gw ∧ Cond.initialized RX10 ∈ gw ∧ Cond.code yX10_days cX10_days 3 (some .int) ∈ gw := ⟨gw_at 844 (by decide +kernel) rfl, wx_845, wx_846, wx_113, wx_847⟩
theorem wx_1742 : Cond.instanceMethod yX11_days ∈ gw := gw_at 1742 (by decide +kernel) rfl
theorem wx_1743 : Cond.selects RX11 yX11_days yX11_days ∈ gw := gw_at 1743 (by decide +kernel) rfl
theorem wx_1744 : Cond.code yX11_days cX11_days 2 (some .int) ∈ gw := gw_at 1744 (by decide +kernel) rfl
theorem wm_RL_86 : Cond.methodLink RL 86 yX11_days ∈ gw ∧ Cond.instanceMethod yX11_days ∈ gw ∧ Cond.selects RX11 yX11_days yX11_days ∈ gw ∧ Cond.initialized RX11 ∈ gw ∧ Cond.code yX11_days cX11_days 2 (some .int) ∈ gw := ⟨gw_at 1741 (by decide +kernel) rfl, wx_1742, wx_1743, wx_123, wx_1744⟩
theorem wx_867 : Cond.instanceMethod yX10_undo ∈ gw := gw_at 867 (by decide +kernel) rfl
theorem wx_868 : Cond.selects RX10 yX10_undo yX10_undo ∈ gw := gw_at 868 (by decide +kernel) rfl
theorem wx_869 : Cond.code yX10_undo cX10_undo 1 (some .int) ∈ gw := gw_at 869 (by decide +kernel) rfl
theorem wm_RL_87 : Cond.methodLink RL 87 yX10_undo ∈ gw ∧ Cond.instanceMethod yX10_undo ∈ gw ∧ Cond.selects RX10 yX10_undo yX10_undo ∈ gw ∧ Cond.initialized RX10 ∈ gw ∧ Cond.code yX10_undo cX10_undo 1 (some .int) ∈ gw := ⟨gw_at 866 (by decide +kernel) rfl, wx_867, wx_868, wx_113, wx_869⟩
theorem wx_1754 : Cond.instanceMethod yX11_undo ∈ gw := gw_at 1754 (by decide +kernel) rfl
theorem wx_1755 : Cond.selects RX11 yX11_undo yX11_undo ∈ gw := gw_at 1755 (by decide +kernel) rfl
theorem wx_1756 : Cond.code yX11_undo cX11_undo 2 (some .int) ∈ gw := gw_at 1756 (by decide +kernel) rfl
theorem wm_RL_90 : Cond.methodLink RL 90 yX11_undo ∈ gw ∧ Cond.instanceMethod yX11_undo ∈ gw ∧ Cond.selects RX11 yX11_undo yX11_undo ∈ gw ∧ Cond.initialized RX11 ∈ gw ∧ Cond.code yX11_undo cX11_undo 2 (some .int) ∈ gw := ⟨gw_at 1753 (by decide +kernel) rfl, wx_1754, wx_1755, wx_123, wx_1756⟩
theorem wx_875 : Cond.instanceMethod yX10_ease ∈ gw := gw_at 875 (by decide +kernel) rfl
theorem wx_876 : Cond.selects RX10 yX10_ease yX10_ease ∈ gw := gw_at 876 (by decide +kernel) rfl
theorem wx_877 : Cond.code yX10_ease cX10_ease 2 (some .int) ∈ gw := gw_at 877 (by decide +kernel) rfl
theorem wm_RL_91 : Cond.methodLink RL 91 yX10_ease ∈ gw ∧ Cond.instanceMethod yX10_ease ∈ gw ∧ Cond.selects RX10 yX10_ease yX10_ease ∈ gw ∧ Cond.initialized RX10 ∈ gw ∧ Cond.code yX10_ease cX10_ease 2 (some .int) ∈ gw := ⟨gw_at 874 (by decide +kernel) rfl, wx_875, wx_876, wx_113, wx_877⟩
theorem wx_1758 : Cond.instanceMethod yX11_ease ∈ gw := gw_at 1758 (by decide +kernel) rfl
theorem wx_1759 : Cond.selects RX11 yX11_ease yX11_ease ∈ gw := gw_at 1759 (by decide +kernel) rfl
theorem wx_1760 : Cond.code yX11_ease cX11_ease 2 (some .int) ∈ gw := gw_at 1760 (by decide +kernel) rfl
theorem wm_RL_94 : Cond.methodLink RL 94 yX11_ease ∈ gw ∧ Cond.instanceMethod yX11_ease ∈ gw ∧ Cond.selects RX11 yX11_ease yX11_ease ∈ gw ∧ Cond.initialized RX11 ∈ gw ∧ Cond.code yX11_ease cX11_ease 2 (some .int) ∈ gw := ⟨gw_at 1757 (by decide +kernel) rfl, wx_1758, wx_1759, wx_123, wx_1760⟩
theorem wx_889 : Cond.instanceMethod yX10_nests ∈ gw := gw_at 889 (by decide +kernel) rfl
theorem wx_890 : Cond.selects RX10 yX10_nests yX10_nests ∈ gw := gw_at 890 (by decide +kernel) rfl
theorem wx_891 : Cond.code yX10_nests cX10_nests 2 (some .int) ∈ gw := gw_at 891 (by decide +kernel) rfl
theorem wm_RL_95 : Cond.methodLink RL 95 yX10_nests ∈ gw ∧ Cond.instanceMethod yX10_nests ∈ gw ∧ Cond.selects RX10 yX10_nests yX10_nests ∈ gw ∧ Cond.initialized RX10 ∈ gw ∧ Cond.code yX10_nests cX10_nests 2 (some .int) ∈ gw := ⟨gw_at 888 (by decide +kernel) rfl, wx_889, wx_890, wx_113, wx_891⟩
theorem wx_1766 : Cond.instanceMethod yX11_nests ∈ gw := gw_at 1766 (by decide +kernel) rfl
theorem wx_1767 : Cond.selects RX11 yX11_nests yX11_nests ∈ gw := gw_at 1767 (by decide +kernel) rfl
theorem wx_1768 : Cond.code yX11_nests cX11_nests 4 (some .int) ∈ gw := gw_at 1768 (by decide +kernel) rfl
theorem wm_RL_98 : Cond.methodLink RL 98 yX11_nests ∈ gw ∧ Cond.instanceMethod yX11_nests ∈ gw ∧ Cond.selects RX11 yX11_nests yX11_nests ∈ gw ∧ Cond.initialized RX11 ∈ gw ∧ Cond.code yX11_nests cX11_nests 4 (some .int) ∈ gw := ⟨gw_at 1765 (by decide +kernel) rfl, wx_1766, wx_1767, wx_123, wx_1768⟩
theorem wx_902 : Cond.instanceMethod yX10_round ∈ gw := gw_at 902 (by decide +kernel) rfl
theorem wx_903 : Cond.selects RX10 yX10_round yX10_round ∈ gw := gw_at 903 (by decide +kernel) rfl
theorem wx_904 : Cond.code yX10_round cX10_round 2 (some .int) ∈ gw := gw_at 904 (by decide +kernel) rfl
theorem wm_RL_99 : Cond.methodLink RL 99 yX10_round ∈ gw ∧ Cond.instanceMethod yX10_round ∈ gw ∧ Cond.selects RX10 yX10_round yX10_round ∈ gw ∧ Cond.initialized RX10 ∈ gw ∧ Cond.code yX10_round cX10_round 2 (some .int) ∈ gw := ⟨gw_at 901 (by decide +kernel) rfl, wx_902, wx_903, wx_113, wx_904⟩
theorem wx_1778 : Cond.instanceMethod yX11_round ∈ gw := gw_at 1778 (by decide +kernel) rfl
theorem wx_1779 : Cond.selects RX11 yX11_round yX11_round ∈ gw := gw_at 1779 (by decide +kernel) rfl
theorem wx_1780 : Cond.code yX11_round cX11_round 8 (some .int) ∈ gw := gw_at 1780 (by decide +kernel) rfl
theorem wm_RL_102 : Cond.methodLink RL 102 yX11_round ∈ gw ∧ Cond.instanceMethod yX11_round ∈ gw ∧ Cond.selects RX11 yX11_round yX11_round ∈ gw ∧ Cond.initialized RX11 ∈ gw ∧ Cond.code yX11_round cX11_round 8 (some .int) ∈ gw := ⟨gw_at 1777 (by decide +kernel) rfl, wx_1778, wx_1779, wx_123, wx_1780⟩
theorem wx_922 : Cond.instanceMethod yX10_rounded ∈ gw := gw_at 922 (by decide +kernel) rfl
theorem wx_923 : Cond.selects RX10 yX10_rounded yX10_rounded ∈ gw := gw_at 923 (by decide +kernel) rfl
theorem wx_924 : Cond.code yX10_rounded cX10_rounded 1 (some .int) ∈ gw := gw_at 924 (by decide +kernel) rfl
theorem wm_RL_103 : Cond.methodLink RL 103 yX10_rounded ∈ gw ∧ Cond.instanceMethod yX10_rounded ∈ gw ∧ Cond.selects RX10 yX10_rounded yX10_rounded ∈ gw ∧ Cond.initialized RX10 ∈ gw ∧ Cond.code yX10_rounded cX10_rounded 1 (some .int) ∈ gw := ⟨gw_at 921 (by decide +kernel) rfl, wx_922, wx_923, wx_113, wx_924⟩
theorem wx_1788 : Cond.instanceMethod yX11_rounded ∈ gw := gw_at 1788 (by decide +kernel) rfl
theorem wx_1789 : Cond.selects RX11 yX11_rounded yX11_rounded ∈ gw := gw_at 1789 (by decide +kernel) rfl
theorem wx_1790 : Cond.code yX11_rounded cX11_rounded 1 (some .int) ∈ gw := gw_at 1790 (by decide +kernel) rfl
theorem wm_RL_106 : Cond.methodLink RL 106 yX11_rounded ∈ gw ∧ Cond.instanceMethod yX11_rounded ∈ gw ∧ Cond.selects RX11 yX11_rounded yX11_rounded ∈ gw ∧ Cond.initialized RX11 ∈ gw ∧ Cond.code yX11_rounded cX11_rounded 1 (some .int) ∈ gw := ⟨gw_at 1787 (by decide +kernel) rfl, wx_1788, wx_1789, wx_123, wx_1790⟩
theorem wx_926 : Cond.instanceMethod yX10_beds ∈ gw := gw_at 926 (by decide +kernel) rfl
theorem wx_927 : Cond.selects RX10 yX10_beds yX10_beds ∈ gw := gw_at 927 (by decide +kernel) rfl
theorem wx_928 : Cond.code yX10_beds cX10_beds 1 (some .int) ∈ gw := gw_at 928 (by decide +kernel) rfl
theorem wm_RL_107 : Cond.methodLink RL 107 yX10_beds ∈ gw ∧ Cond.instanceMethod yX10_beds ∈ gw ∧ Cond.selects RX10 yX10_beds yX10_beds ∈ gw ∧ Cond.initialized RX10 ∈ gw ∧ Cond.code yX10_beds cX10_beds 1 (some .int) ∈ gw := ⟨gw_at 925 (by decide +kernel) rfl, wx_926, wx_927, wx_113, wx_928⟩
theorem wx_1792 : Cond.instanceMethod yX11_beds ∈ gw := gw_at 1792 (by decide +kernel) rfl
theorem wx_1793 : Cond.selects RX11 yX11_beds yX11_beds ∈ gw := gw_at 1793 (by decide +kernel) rfl
theorem wx_1794 : Cond.code yX11_beds cX11_beds 7 (some .int) ∈ gw := gw_at 1794 (by decide +kernel) rfl
theorem wm_RL_110 : Cond.methodLink RL 110 yX11_beds ∈ gw ∧ Cond.instanceMethod yX11_beds ∈ gw ∧ Cond.selects RX11 yX11_beds yX11_beds ∈ gw ∧ Cond.initialized RX11 ∈ gw ∧ Cond.code yX11_beds cX11_beds 7 (some .int) ∈ gw := ⟨gw_at 1791 (by decide +kernel) rfl, wx_1792, wx_1793, wx_123, wx_1794⟩
theorem wx_955 : Cond.instanceMethod yX10_bedded ∈ gw := gw_at 955 (by decide +kernel) rfl
theorem wx_956 : Cond.selects RX10 yX10_bedded yX10_bedded ∈ gw := gw_at 956 (by decide +kernel) rfl
theorem wx_957 : Cond.code yX10_bedded cX10_bedded 1 (some .int) ∈ gw := gw_at 957 (by decide +kernel) rfl
theorem wm_RL_111 : Cond.methodLink RL 111 yX10_bedded ∈ gw ∧ Cond.instanceMethod yX10_bedded ∈ gw ∧ Cond.selects RX10 yX10_bedded yX10_bedded ∈ gw ∧ Cond.initialized RX10 ∈ gw ∧ Cond.code yX10_bedded cX10_bedded 1 (some .int) ∈ gw := ⟨gw_at 954 (by decide +kernel) rfl, wx_955, wx_956, wx_113, wx_957⟩
theorem wx_1804 : Cond.instanceMethod yX11_bedded ∈ gw := gw_at 1804 (by decide +kernel) rfl
theorem wx_1805 : Cond.selects RX11 yX11_bedded yX11_bedded ∈ gw := gw_at 1805 (by decide +kernel) rfl
theorem wx_1806 : Cond.code yX11_bedded cX11_bedded 1 (some .int) ∈ gw := gw_at 1806 (by decide +kernel) rfl
theorem wm_RL_114 : Cond.methodLink RL 114 yX11_bedded ∈ gw ∧ Cond.instanceMethod yX11_bedded ∈ gw ∧ Cond.selects RX11 yX11_bedded yX11_bedded ∈ gw ∧ Cond.initialized RX11 ∈ gw ∧ Cond.code yX11_bedded cX11_bedded 1 (some .int) ∈ gw := ⟨gw_at 1803 (by decide +kernel) rfl, wx_1804, wx_1805, wx_123, wx_1806⟩
theorem wx_959 : Cond.instanceMethod yX10_fits ∈ gw := gw_at 959 (by decide +kernel) rfl
theorem wx_960 : Cond.selects RX10 yX10_fits yX10_fits ∈ gw := gw_at 960 (by decide +kernel) rfl
theorem wx_961 : Cond.code yX10_fits cX10_fits 4 (some .int) ∈ gw := gw_at 961 (by decide +kernel) rfl
theorem wm_RL_115 : Cond.methodLink RL 115 yX10_fits ∈ gw ∧ Cond.instanceMethod yX10_fits ∈ gw ∧ Cond.selects RX10 yX10_fits yX10_fits ∈ gw ∧ Cond.initialized RX10 ∈ gw ∧ Cond.code yX10_fits cX10_fits 4 (some .int) ∈ gw := ⟨gw_at 958 (by decide +kernel) rfl, wx_959, wx_960, wx_113, wx_961⟩
theorem wx_1808 : Cond.instanceMethod yX11_fits ∈ gw := gw_at 1808 (by decide +kernel) rfl
theorem wx_1809 : Cond.selects RX11 yX11_fits yX11_fits ∈ gw := gw_at 1809 (by decide +kernel) rfl
theorem wx_1810 : Cond.code yX11_fits cX11_fits 3 (some .int) ∈ gw := gw_at 1810 (by decide +kernel) rfl
theorem wm_RL_118 : Cond.methodLink RL 118 yX11_fits ∈ gw ∧ Cond.instanceMethod yX11_fits ∈ gw ∧ Cond.selects RX11 yX11_fits yX11_fits ∈ gw ∧ Cond.initialized RX11 ∈ gw ∧ Cond.code yX11_fits cX11_fits 3 (some .int) ∈ gw := ⟨gw_at 1807 (by decide +kernel) rfl, wx_1808, wx_1809, wx_123, wx_1810⟩
theorem wx_976 : Cond.instanceMethod yX10_ask ∈ gw := gw_at 976 (by decide +kernel) rfl
theorem wx_977 : Cond.selects RX10 yX10_ask yX10_ask ∈ gw := gw_at 977 (by decide +kernel) rfl
theorem wx_978 : Cond.code yX10_ask cX10_ask 1 (some .int) ∈ gw := gw_at 978 (by decide +kernel) rfl
theorem wm_RL_119 : Cond.methodLink RL 119 yX10_ask ∈ gw ∧ Cond.instanceMethod yX10_ask ∈ gw ∧ Cond.selects RX10 yX10_ask yX10_ask ∈ gw ∧ Cond.initialized RX10 ∈ gw ∧ Cond.code yX10_ask cX10_ask 1 (some .int) ∈ gw := ⟨gw_at 975 (by decide +kernel) rfl, wx_976, wx_977, wx_113, wx_978⟩
theorem wx_1827 : Cond.instanceMethod yX11_ask ∈ gw := gw_at 1827 (by decide +kernel) rfl
theorem wx_1828 : Cond.selects RX11 yX11_ask yX11_ask ∈ gw := gw_at 1828 (by decide +kernel) rfl
theorem wx_1829 : Cond.code yX11_ask cX11_ask 1 (some .int) ∈ gw := gw_at 1829 (by decide +kernel) rfl
theorem wm_RL_122 : Cond.methodLink RL 122 yX11_ask ∈ gw ∧ Cond.instanceMethod yX11_ask ∈ gw ∧ Cond.selects RX11 yX11_ask yX11_ask ∈ gw ∧ Cond.initialized RX11 ∈ gw ∧ Cond.code yX11_ask cX11_ask 1 (some .int) ∈ gw := ⟨gw_at 1826 (by decide +kernel) rfl, wx_1827, wx_1828, wx_123, wx_1829⟩
theorem wx_980 : Cond.instanceMethod yX10_like ∈ gw := gw_at 980 (by decide +kernel) rfl
theorem wx_981 : Cond.selects RX10 yX10_like yX10_like ∈ gw := gw_at 981 (by decide +kernel) rfl
theorem wx_982 : Cond.code yX10_like cX10_like 4 (some .int) ∈ gw := gw_at 982 (by decide +kernel) rfl
theorem wm_RL_123 : Cond.methodLink RL 123 yX10_like ∈ gw ∧ Cond.instanceMethod yX10_like ∈ gw ∧ Cond.selects RX10 yX10_like yX10_like ∈ gw ∧ Cond.initialized RX10 ∈ gw ∧ Cond.code yX10_like cX10_like 4 (some .int) ∈ gw := ⟨gw_at 979 (by decide +kernel) rfl, wx_980, wx_981, wx_113, wx_982⟩
theorem wx_1831 : Cond.instanceMethod yX11_like ∈ gw := gw_at 1831 (by decide +kernel) rfl
theorem wx_1832 : Cond.selects RX11 yX11_like yX11_like ∈ gw := gw_at 1832 (by decide +kernel) rfl
theorem wx_1833 : Cond.code yX11_like cX11_like 4 (some .int) ∈ gw := gw_at 1833 (by decide +kernel) rfl
theorem wm_RL_126 : Cond.methodLink RL 126 yX11_like ∈ gw ∧ Cond.instanceMethod yX11_like ∈ gw ∧ Cond.selects RX11 yX11_like yX11_like ∈ gw ∧ Cond.initialized RX11 ∈ gw ∧ Cond.code yX11_like cX11_like 4 (some .int) ∈ gw := ⟨gw_at 1830 (by decide +kernel) rfl, wx_1831, wx_1832, wx_123, wx_1833⟩
theorem wx_988 : Cond.instanceMethod yX10_hardest ∈ gw := gw_at 988 (by decide +kernel) rfl
theorem wx_989 : Cond.selects RX10 yX10_hardest yX10_hardest ∈ gw := gw_at 989 (by decide +kernel) rfl
theorem wx_990 : Cond.code yX10_hardest cX10_hardest 5 (some .int) ∈ gw := gw_at 990 (by decide +kernel) rfl
theorem wm_RL_127 : Cond.methodLink RL 127 yX10_hardest ∈ gw ∧ Cond.instanceMethod yX10_hardest ∈ gw ∧ Cond.selects RX10 yX10_hardest yX10_hardest ∈ gw ∧ Cond.initialized RX10 ∈ gw ∧ Cond.code yX10_hardest cX10_hardest 5 (some .int) ∈ gw := ⟨gw_at 987 (by decide +kernel) rfl, wx_988, wx_989, wx_113, wx_990⟩
theorem wx_1839 : Cond.instanceMethod yX11_hardest ∈ gw := gw_at 1839 (by decide +kernel) rfl
theorem wx_1840 : Cond.selects RX11 yX11_hardest yX11_hardest ∈ gw := gw_at 1840 (by decide +kernel) rfl
theorem wx_1841 : Cond.code yX11_hardest cX11_hardest 3 (some .int) ∈ gw := gw_at 1841 (by decide +kernel) rfl
theorem wm_RL_130 : Cond.methodLink RL 130 yX11_hardest ∈ gw ∧ Cond.instanceMethod yX11_hardest ∈ gw ∧ Cond.selects RX11 yX11_hardest yX11_hardest ∈ gw ∧ Cond.initialized RX11 ∈ gw ∧ Cond.code yX11_hardest cX11_hardest 3 (some .int) ∈ gw := ⟨gw_at 1838 (by decide +kernel) rfl, wx_1839, wx_1840, wx_123, wx_1841⟩
theorem wx_1843 : Cond.instanceMethod yX11_mean ∈ gw := gw_at 1843 (by decide +kernel) rfl
theorem wx_1844 : Cond.selects RX11 yX11_mean yX11_mean ∈ gw := gw_at 1844 (by decide +kernel) rfl
theorem wx_1845 : Cond.code yX11_mean cX11_mean 6 (some .int) ∈ gw := gw_at 1845 (by decide +kernel) rfl
theorem wm_RL_133 : Cond.methodLink RL 133 yX11_mean ∈ gw ∧ Cond.instanceMethod yX11_mean ∈ gw ∧ Cond.selects RX11 yX11_mean yX11_mean ∈ gw ∧ Cond.initialized RX11 ∈ gw ∧ Cond.code yX11_mean cX11_mean 6 (some .int) ∈ gw := ⟨gw_at 1842 (by decide +kernel) rfl, wx_1843, wx_1844, wx_123, wx_1845⟩
theorem wx_993 : Cond.instanceMethod yX10_tag ∈ gw := gw_at 993 (by decide +kernel) rfl
theorem wx_994 : Cond.selects RX10 yX10_tag yX10_tag ∈ gw := gw_at 994 (by decide +kernel) rfl
theorem wx_995 : Cond.code yX10_tag cX10_tag 2 (some .int) ∈ gw := gw_at 995 (by decide +kernel) rfl
theorem wm_RL_134 : Cond.methodLink RL 134 yX10_tag ∈ gw ∧ Cond.instanceMethod yX10_tag ∈ gw ∧ Cond.selects RX10 yX10_tag yX10_tag ∈ gw ∧ Cond.initialized RX10 ∈ gw ∧ Cond.code yX10_tag cX10_tag 2 (some .int) ∈ gw := ⟨gw_at 992 (by decide +kernel) rfl, wx_993, wx_994, wx_113, wx_995⟩
theorem wx_1847 : Cond.instanceMethod yX11_tag ∈ gw := gw_at 1847 (by decide +kernel) rfl
theorem wx_1848 : Cond.selects RX11 yX11_tag yX11_tag ∈ gw := gw_at 1848 (by decide +kernel) rfl
theorem wx_1849 : Cond.code yX11_tag cX11_tag 5 (some .int) ∈ gw := gw_at 1849 (by decide +kernel) rfl
theorem wm_RL_137 : Cond.methodLink RL 137 yX11_tag ∈ gw ∧ Cond.instanceMethod yX11_tag ∈ gw ∧ Cond.selects RX11 yX11_tag yX11_tag ∈ gw ∧ Cond.initialized RX11 ∈ gw ∧ Cond.code yX11_tag cX11_tag 5 (some .int) ∈ gw := ⟨gw_at 1846 (by decide +kernel) rfl, wx_1847, wx_1848, wx_123, wx_1849⟩
theorem wx_1017 : Cond.instanceMethod yX10_byteAt ∈ gw := gw_at 1017 (by decide +kernel) rfl
theorem wx_1018 : Cond.selects RX10 yX10_byteAt yX10_byteAt ∈ gw := gw_at 1018 (by decide +kernel) rfl
theorem wx_1019 : Cond.code yX10_byteAt cX10_byteAt 2 (some .int) ∈ gw := gw_at 1019 (by decide +kernel) rfl
theorem wm_RL_138 : Cond.methodLink RL 138 yX10_byteAt ∈ gw ∧ Cond.instanceMethod yX10_byteAt ∈ gw ∧ Cond.selects RX10 yX10_byteAt yX10_byteAt ∈ gw ∧ Cond.initialized RX10 ∈ gw ∧ Cond.code yX10_byteAt cX10_byteAt 2 (some .int) ∈ gw := ⟨gw_at 1016 (by decide +kernel) rfl, wx_1017, wx_1018, wx_113, wx_1019⟩
theorem wx_1864 : Cond.instanceMethod yX11_byteAt ∈ gw := gw_at 1864 (by decide +kernel) rfl
theorem wx_1865 : Cond.selects RX11 yX11_byteAt yX11_byteAt ∈ gw := gw_at 1865 (by decide +kernel) rfl
theorem wx_1866 : Cond.code yX11_byteAt cX11_byteAt 2 (some .int) ∈ gw := gw_at 1866 (by decide +kernel) rfl
theorem wm_RL_141 : Cond.methodLink RL 141 yX11_byteAt ∈ gw ∧ Cond.instanceMethod yX11_byteAt ∈ gw ∧ Cond.selects RX11 yX11_byteAt yX11_byteAt ∈ gw ∧ Cond.initialized RX11 ∈ gw ∧ Cond.code yX11_byteAt cX11_byteAt 2 (some .int) ∈ gw := ⟨gw_at 1863 (by decide +kernel) rfl, wx_1864, wx_1865, wx_123, wx_1866⟩
theorem wx_1021 : Cond.instanceMethod yX10_drawn ∈ gw := gw_at 1021 (by decide +kernel) rfl
theorem wx_1022 : Cond.selects RX10 yX10_drawn yX10_drawn ∈ gw := gw_at 1022 (by decide +kernel) rfl
theorem wx_1023 : Cond.code yX10_drawn cX10_drawn 4 (some .int) ∈ gw := gw_at 1023 (by decide +kernel) rfl
theorem wm_RL_142 : Cond.methodLink RL 142 yX10_drawn ∈ gw ∧ Cond.instanceMethod yX10_drawn ∈ gw ∧ Cond.selects RX10 yX10_drawn yX10_drawn ∈ gw ∧ Cond.initialized RX10 ∈ gw ∧ Cond.code yX10_drawn cX10_drawn 4 (some .int) ∈ gw := ⟨gw_at 1020 (by decide +kernel) rfl, wx_1021, wx_1022, wx_113, wx_1023⟩
theorem wx_1868 : Cond.instanceMethod yX11_drawn ∈ gw := gw_at 1868 (by decide +kernel) rfl
theorem wx_1869 : Cond.selects RX11 yX11_drawn yX11_drawn ∈ gw := gw_at 1869 (by decide +kernel) rfl
theorem wx_1870 : Cond.code yX11_drawn cX11_drawn 3 (some .int) ∈ gw := gw_at 1870 (by decide +kernel) rfl
theorem wm_RL_145 : Cond.methodLink RL 145 yX11_drawn ∈ gw ∧ Cond.instanceMethod yX11_drawn ∈ gw ∧ Cond.selects RX11 yX11_drawn yX11_drawn ∈ gw ∧ Cond.initialized RX11 ∈ gw ∧ Cond.code yX11_drawn cX11_drawn 3 (some .int) ∈ gw := ⟨gw_at 1867 (by decide +kernel) rfl, wx_1868, wx_1869, wx_123, wx_1870⟩
theorem wx_1042 : Cond.instanceMethod yX10_odds ∈ gw := gw_at 1042 (by decide +kernel) rfl
theorem wx_1043 : Cond.selects RX10 yX10_odds yX10_odds ∈ gw := gw_at 1043 (by decide +kernel) rfl
theorem wx_1044 : Cond.code yX10_odds cX10_odds 6 (some .int) ∈ gw := gw_at 1044 (by decide +kernel) rfl
theorem wm_RL_146 : Cond.methodLink RL 146 yX10_odds ∈ gw ∧ Cond.instanceMethod yX10_odds ∈ gw ∧ Cond.selects RX10 yX10_odds yX10_odds ∈ gw ∧ Cond.initialized RX10 ∈ gw ∧ Cond.code yX10_odds cX10_odds 6 (some .int) ∈ gw := ⟨gw_at 1041 (by decide +kernel) rfl, wx_1042, wx_1043, wx_113, wx_1044⟩
theorem wx_1885 : Cond.instanceMethod yX11_odds ∈ gw := gw_at 1885 (by decide +kernel) rfl
theorem wx_1886 : Cond.selects RX11 yX11_odds yX11_odds ∈ gw := gw_at 1886 (by decide +kernel) rfl
theorem wx_1887 : Cond.code yX11_odds cX11_odds 6 (some .int) ∈ gw := gw_at 1887 (by decide +kernel) rfl
theorem wm_RL_150 : Cond.methodLink RL 150 yX11_odds ∈ gw ∧ Cond.instanceMethod yX11_odds ∈ gw ∧ Cond.selects RX11 yX11_odds yX11_odds ∈ gw ∧ Cond.initialized RX11 ∈ gw ∧ Cond.code yX11_odds cX11_odds 6 (some .int) ∈ gw := ⟨gw_at 1884 (by decide +kernel) rfl, wx_1885, wx_1886, wx_123, wx_1887⟩
theorem wx_1047 : Cond.instanceMethod yX10_book ∈ gw := gw_at 1047 (by decide +kernel) rfl
theorem wx_1048 : Cond.selects RX10 yX10_book yX10_book ∈ gw := gw_at 1048 (by decide +kernel) rfl
theorem wx_1049 : Cond.code yX10_book cX10_book 2 (some .int) ∈ gw := gw_at 1049 (by decide +kernel) rfl
theorem wm_RL_151 : Cond.methodLink RL 151 yX10_book ∈ gw ∧ Cond.instanceMethod yX10_book ∈ gw ∧ Cond.selects RX10 yX10_book yX10_book ∈ gw ∧ Cond.initialized RX10 ∈ gw ∧ Cond.code yX10_book cX10_book 2 (some .int) ∈ gw := ⟨gw_at 1046 (by decide +kernel) rfl, wx_1047, wx_1048, wx_113, wx_1049⟩
theorem wx_1889 : Cond.instanceMethod yX11_book ∈ gw := gw_at 1889 (by decide +kernel) rfl
theorem wx_1890 : Cond.selects RX11 yX11_book yX11_book ∈ gw := gw_at 1890 (by decide +kernel) rfl
theorem wx_1891 : Cond.code yX11_book cX11_book 4 (some .int) ∈ gw := gw_at 1891 (by decide +kernel) rfl
theorem wm_RL_154 : Cond.methodLink RL 154 yX11_book ∈ gw ∧ Cond.instanceMethod yX11_book ∈ gw ∧ Cond.selects RX11 yX11_book yX11_book ∈ gw ∧ Cond.initialized RX11 ∈ gw ∧ Cond.code yX11_book cX11_book 4 (some .int) ∈ gw := ⟨gw_at 1888 (by decide +kernel) rfl, wx_1889, wx_1890, wx_123, wx_1891⟩
theorem wx_1122 : Cond.instanceMethod yX10_told ∈ gw := gw_at 1122 (by decide +kernel) rfl
theorem wx_1123 : Cond.selects RX10 yX10_told yX10_told ∈ gw := gw_at 1123 (by decide +kernel) rfl
theorem wx_1124 : Cond.code yX10_told cX10_told 2 (some .int) ∈ gw := gw_at 1124 (by decide +kernel) rfl
theorem wm_RL_155 : Cond.methodLink RL 155 yX10_told ∈ gw ∧ Cond.instanceMethod yX10_told ∈ gw ∧ Cond.selects RX10 yX10_told yX10_told ∈ gw ∧ Cond.initialized RX10 ∈ gw ∧ Cond.code yX10_told cX10_told 2 (some .int) ∈ gw := ⟨gw_at 1121 (by decide +kernel) rfl, wx_1122, wx_1123, wx_113, wx_1124⟩
theorem wx_1901 : Cond.instanceMethod yX11_told ∈ gw := gw_at 1901 (by decide +kernel) rfl
theorem wx_1902 : Cond.selects RX11 yX11_told yX11_told ∈ gw := gw_at 1902 (by decide +kernel) rfl
theorem wx_1903 : Cond.code yX11_told cX11_told 2 (some .int) ∈ gw := gw_at 1903 (by decide +kernel) rfl
theorem wm_RL_158 : Cond.methodLink RL 158 yX11_told ∈ gw ∧ Cond.instanceMethod yX11_told ∈ gw ∧ Cond.selects RX11 yX11_told yX11_told ∈ gw ∧ Cond.initialized RX11 ∈ gw ∧ Cond.code yX11_told cX11_told 2 (some .int) ∈ gw := ⟨gw_at 1900 (by decide +kernel) rfl, wx_1901, wx_1902, wx_123, wx_1903⟩
theorem wx_1126 : Cond.instanceMethod yX10_sentence ∈ gw := gw_at 1126 (by decide +kernel) rfl
theorem wx_1127 : Cond.selects RX10 yX10_sentence yX10_sentence ∈ gw := gw_at 1127 (by decide +kernel) rfl
theorem wx_1128 : Cond.code yX10_sentence cX10_sentence 1 (some .int) ∈ gw := gw_at 1128 (by decide +kernel) rfl
theorem wm_RL_159 : Cond.methodLink RL 159 yX10_sentence ∈ gw ∧ Cond.instanceMethod yX10_sentence ∈ gw ∧ Cond.selects RX10 yX10_sentence yX10_sentence ∈ gw ∧ Cond.initialized RX10 ∈ gw ∧ Cond.code yX10_sentence cX10_sentence 1 (some .int) ∈ gw := ⟨gw_at 1125 (by decide +kernel) rfl, wx_1126, wx_1127, wx_113, wx_1128⟩
theorem wx_1905 : Cond.instanceMethod yX11_sentence ∈ gw := gw_at 1905 (by decide +kernel) rfl
theorem wx_1906 : Cond.selects RX11 yX11_sentence yX11_sentence ∈ gw := gw_at 1906 (by decide +kernel) rfl
theorem wx_1907 : Cond.code yX11_sentence cX11_sentence 3 (some .int) ∈ gw := gw_at 1907 (by decide +kernel) rfl
theorem wm_RL_162 : Cond.methodLink RL 162 yX11_sentence ∈ gw ∧ Cond.instanceMethod yX11_sentence ∈ gw ∧ Cond.selects RX11 yX11_sentence yX11_sentence ∈ gw ∧ Cond.initialized RX11 ∈ gw ∧ Cond.code yX11_sentence cX11_sentence 3 (some .int) ∈ gw := ⟨gw_at 1904 (by decide +kernel) rfl, wx_1905, wx_1906, wx_123, wx_1907⟩
theorem wx_1190 : Cond.instanceMethod yX10_said ∈ gw := gw_at 1190 (by decide +kernel) rfl
theorem wx_1191 : Cond.selects RX10 yX10_said yX10_said ∈ gw := gw_at 1191 (by decide +kernel) rfl
theorem wx_1192 : Cond.code yX10_said cX10_said 4 (some .int) ∈ gw := gw_at 1192 (by decide +kernel) rfl
theorem wm_RL_163 : Cond.methodLink RL 163 yX10_said ∈ gw ∧ Cond.instanceMethod yX10_said ∈ gw ∧ Cond.selects RX10 yX10_said yX10_said ∈ gw ∧ Cond.initialized RX10 ∈ gw ∧ Cond.code yX10_said cX10_said 4 (some .int) ∈ gw := ⟨gw_at 1189 (by decide +kernel) rfl, wx_1190, wx_1191, wx_113, wx_1192⟩
theorem wx_1933 : Cond.instanceMethod yX11_said ∈ gw := gw_at 1933 (by decide +kernel) rfl
theorem wx_1934 : Cond.selects RX11 yX11_said yX11_said ∈ gw := gw_at 1934 (by decide +kernel) rfl
theorem wx_1935 : Cond.code yX11_said cX11_said 4 (some .int) ∈ gw := gw_at 1935 (by decide +kernel) rfl
theorem wm_RL_166 : Cond.methodLink RL 166 yX11_said ∈ gw ∧ Cond.instanceMethod yX11_said ∈ gw ∧ Cond.selects RX11 yX11_said yX11_said ∈ gw ∧ Cond.initialized RX11 ∈ gw ∧ Cond.code yX11_said cX11_said 4 (some .int) ∈ gw := ⟨gw_at 1932 (by decide +kernel) rfl, wx_1933, wx_1934, wx_123, wx_1935⟩
theorem wx_1212 : Cond.instanceMethod yX10_image ∈ gw := gw_at 1212 (by decide +kernel) rfl
theorem wx_1213 : Cond.selects RX10 yX10_image yX10_image ∈ gw := gw_at 1213 (by decide +kernel) rfl
theorem wx_1214 : Cond.code yX10_image cX10_image 2 (some .boolean) ∈ gw := gw_at 1214 (by decide +kernel) rfl
theorem wm_RL_167 : Cond.methodLink RL 167 yX10_image ∈ gw ∧ Cond.instanceMethod yX10_image ∈ gw ∧ Cond.selects RX10 yX10_image yX10_image ∈ gw ∧ Cond.initialized RX10 ∈ gw ∧ Cond.code yX10_image cX10_image 2 (some .boolean) ∈ gw := ⟨gw_at 1211 (by decide +kernel) rfl, wx_1212, wx_1213, wx_113, wx_1214⟩
theorem wx_1945 : Cond.instanceMethod yX11_image ∈ gw := gw_at 1945 (by decide +kernel) rfl
theorem wx_1946 : Cond.selects RX11 yX11_image yX11_image ∈ gw := gw_at 1946 (by decide +kernel) rfl
theorem wx_1947 : Cond.code yX11_image cX11_image 3 (some .boolean) ∈ gw := gw_at 1947 (by decide +kernel) rfl
theorem wm_RL_170 : Cond.methodLink RL 170 yX11_image ∈ gw ∧ Cond.instanceMethod yX11_image ∈ gw ∧ Cond.selects RX11 yX11_image yX11_image ∈ gw ∧ Cond.initialized RX11 ∈ gw ∧ Cond.code yX11_image cX11_image 3 (some .boolean) ∈ gw := ⟨gw_at 1944 (by decide +kernel) rfl, wx_1945, wx_1946, wx_123, wx_1947⟩
theorem wx_1223 : Cond.instanceMethod yX10_restore ∈ gw := gw_at 1223 (by decide +kernel) rfl
theorem wx_1224 : Cond.selects RX10 yX10_restore yX10_restore ∈ gw := gw_at 1224 (by decide +kernel) rfl
theorem wx_1225 : Cond.code yX10_restore cX10_restore 2 (some .boolean) ∈ gw := gw_at 1225 (by decide +kernel) rfl
theorem wm_RL_171 : Cond.methodLink RL 171 yX10_restore ∈ gw ∧ Cond.instanceMethod yX10_restore ∈ gw ∧ Cond.selects RX10 yX10_restore yX10_restore ∈ gw ∧ Cond.initialized RX10 ∈ gw ∧ Cond.code yX10_restore cX10_restore 2 (some .boolean) ∈ gw := ⟨gw_at 1222 (by decide +kernel) rfl, wx_1223, wx_1224, wx_113, wx_1225⟩
theorem wx_1949 : Cond.instanceMethod yX11_restore ∈ gw := gw_at 1949 (by decide +kernel) rfl
theorem wx_1950 : Cond.selects RX11 yX11_restore yX11_restore ∈ gw := gw_at 1950 (by decide +kernel) rfl
theorem wx_1951 : Cond.code yX11_restore cX11_restore 3 (some .boolean) ∈ gw := gw_at 1951 (by decide +kernel) rfl
theorem wm_RL_174 : Cond.methodLink RL 174 yX11_restore ∈ gw ∧ Cond.instanceMethod yX11_restore ∈ gw ∧ Cond.selects RX11 yX11_restore yX11_restore ∈ gw ∧ Cond.initialized RX11 ∈ gw ∧ Cond.code yX11_restore cX11_restore 3 (some .boolean) ∈ gw := ⟨gw_at 1948 (by decide +kernel) rfl, wx_1949, wx_1950, wx_123, wx_1951⟩
theorem wx_1231 : Cond.instanceMethod yX10_count ∈ gw := gw_at 1231 (by decide +kernel) rfl
theorem wx_1232 : Cond.selects RX10 yX10_count yX10_count ∈ gw := gw_at 1232 (by decide +kernel) rfl
theorem wx_1233 : Cond.code yX10_count cX10_count 2 (some .int) ∈ gw := gw_at 1233 (by decide +kernel) rfl
theorem wm_RL_175 : Cond.methodLink RL 175 yX10_count ∈ gw ∧ Cond.instanceMethod yX10_count ∈ gw ∧ Cond.selects RX10 yX10_count yX10_count ∈ gw ∧ Cond.initialized RX10 ∈ gw ∧ Cond.code yX10_count cX10_count 2 (some .int) ∈ gw := ⟨gw_at 1230 (by decide +kernel) rfl, wx_1231, wx_1232, wx_113, wx_1233⟩
theorem wx_1953 : Cond.instanceMethod yX11_count ∈ gw := gw_at 1953 (by decide +kernel) rfl
theorem wx_1954 : Cond.selects RX11 yX11_count yX11_count ∈ gw := gw_at 1954 (by decide +kernel) rfl
theorem wx_1955 : Cond.code yX11_count cX11_count 2 (some .int) ∈ gw := gw_at 1955 (by decide +kernel) rfl
theorem wm_RL_178 : Cond.methodLink RL 178 yX11_count ∈ gw ∧ Cond.instanceMethod yX11_count ∈ gw ∧ Cond.selects RX11 yX11_count yX11_count ∈ gw ∧ Cond.initialized RX11 ∈ gw ∧ Cond.code yX11_count cX11_count 2 (some .int) ∈ gw := ⟨gw_at 1952 (by decide +kernel) rfl, wx_1953, wx_1954, wx_123, wx_1955⟩
theorem md_X10_ask : yX10_ask.cls = RX10 ∧ yX10_ask.cls ≠ "java/lang/invoke/MethodHandle" ∧ yX10_ask.cls ≠ "java/lang/invoke/VarHandle" ∧ (parseMethodDescriptor yX10_ask.desc).map (fun d => d.parameters.length) = some 0 := by decide +kernel
theorem md_X10_bed : yX10_bed.cls = RX10 ∧ yX10_bed.cls ≠ "java/lang/invoke/MethodHandle" ∧ yX10_bed.cls ≠ "java/lang/invoke/VarHandle" ∧ (parseMethodDescriptor yX10_bed.desc).map (fun d => d.parameters.length) = some 2 := by decide +kernel
theorem md_X10_bedded : yX10_bedded.cls = RX10 ∧ yX10_bedded.cls ≠ "java/lang/invoke/MethodHandle" ∧ yX10_bedded.cls ≠ "java/lang/invoke/VarHandle" ∧ (parseMethodDescriptor yX10_bedded.desc).map (fun d => d.parameters.length) = some 0 := by decide +kernel
theorem md_X10_beds : yX10_beds.cls = RX10 ∧ yX10_beds.cls ≠ "java/lang/invoke/MethodHandle" ∧ yX10_beds.cls ≠ "java/lang/invoke/VarHandle" ∧ (parseMethodDescriptor yX10_beds.desc).map (fun d => d.parameters.length) = some 0 := by decide +kernel
theorem md_X10_book : yX10_book.cls = RX10 ∧ yX10_book.cls ≠ "java/lang/invoke/MethodHandle" ∧ yX10_book.cls ≠ "java/lang/invoke/VarHandle" ∧ (parseMethodDescriptor yX10_book.desc).map (fun d => d.parameters.length) = some 1 := by decide +kernel
theorem md_X10_byteAt : yX10_byteAt.cls = RX10 ∧ yX10_byteAt.cls ≠ "java/lang/invoke/MethodHandle" ∧ yX10_byteAt.cls ≠ "java/lang/invoke/VarHandle" ∧ (parseMethodDescriptor yX10_byteAt.desc).map (fun d => d.parameters.length) = some 1 := by decide +kernel
theorem md_X10_count : yX10_count.cls = RX10 ∧ yX10_count.cls ≠ "java/lang/invoke/MethodHandle" ∧ yX10_count.cls ≠ "java/lang/invoke/VarHandle" ∧ (parseMethodDescriptor yX10_count.desc).map (fun d => d.parameters.length) = some 1 := by decide +kernel
theorem md_X10_cut : yX10_cut.cls = RX10 ∧ yX10_cut.cls ≠ "java/lang/invoke/MethodHandle" ∧ yX10_cut.cls ≠ "java/lang/invoke/VarHandle" ∧ (parseMethodDescriptor yX10_cut.desc).map (fun d => d.parameters.length) = some 1 := by decide +kernel
theorem md_X10_days : yX10_days.cls = RX10 ∧ yX10_days.cls ≠ "java/lang/invoke/MethodHandle" ∧ yX10_days.cls ≠ "java/lang/invoke/VarHandle" ∧ (parseMethodDescriptor yX10_days.desc).map (fun d => d.parameters.length) = some 1 := by decide +kernel
theorem md_X10_drawn : yX10_drawn.cls = RX10 ∧ yX10_drawn.cls ≠ "java/lang/invoke/MethodHandle" ∧ yX10_drawn.cls ≠ "java/lang/invoke/VarHandle" ∧ (parseMethodDescriptor yX10_drawn.desc).map (fun d => d.parameters.length) = some 2 := by decide +kernel
theorem md_X10_ease : yX10_ease.cls = RX10 ∧ yX10_ease.cls ≠ "java/lang/invoke/MethodHandle" ∧ yX10_ease.cls ≠ "java/lang/invoke/VarHandle" ∧ (parseMethodDescriptor yX10_ease.desc).map (fun d => d.parameters.length) = some 1 := by decide +kernel
theorem md_X10_end : yX10_end.cls = RX10 ∧ yX10_end.cls ≠ "java/lang/invoke/MethodHandle" ∧ yX10_end.cls ≠ "java/lang/invoke/VarHandle" ∧ (parseMethodDescriptor yX10_end.desc).map (fun d => d.parameters.length) = some 1 := by decide +kernel
theorem md_X10_fault : yX10_fault.cls = RX10 ∧ yX10_fault.cls ≠ "java/lang/invoke/MethodHandle" ∧ yX10_fault.cls ≠ "java/lang/invoke/VarHandle" ∧ (parseMethodDescriptor yX10_fault.desc).map (fun d => d.parameters.length) = some 0 := by decide +kernel
theorem md_X10_feed : yX10_feed.cls = RX10 ∧ yX10_feed.cls ≠ "java/lang/invoke/MethodHandle" ∧ yX10_feed.cls ≠ "java/lang/invoke/VarHandle" ∧ (parseMethodDescriptor yX10_feed.desc).map (fun d => d.parameters.length) = some 5 := by decide +kernel
theorem md_X10_fits : yX10_fits.cls = RX10 ∧ yX10_fits.cls ≠ "java/lang/invoke/MethodHandle" ∧ yX10_fits.cls ≠ "java/lang/invoke/VarHandle" ∧ (parseMethodDescriptor yX10_fits.desc).map (fun d => d.parameters.length) = some 0 := by decide +kernel
theorem md_X10_hardest : yX10_hardest.cls = RX10 ∧ yX10_hardest.cls ≠ "java/lang/invoke/MethodHandle" ∧ yX10_hardest.cls ≠ "java/lang/invoke/VarHandle" ∧ (parseMethodDescriptor yX10_hardest.desc).map (fun d => d.parameters.length) = some 0 := by decide +kernel
theorem md_X10_image : yX10_image.cls = RX10 ∧ yX10_image.cls ≠ "java/lang/invoke/MethodHandle" ∧ yX10_image.cls ≠ "java/lang/invoke/VarHandle" ∧ (parseMethodDescriptor yX10_image.desc).map (fun d => d.parameters.length) = some 1 := by decide +kernel
theorem md_X10_layer : yX10_layer.cls = RX10 ∧ yX10_layer.cls ≠ "java/lang/invoke/MethodHandle" ∧ yX10_layer.cls ≠ "java/lang/invoke/VarHandle" ∧ (parseMethodDescriptor yX10_layer.desc).map (fun d => d.parameters.length) = some 2 := by decide +kernel
theorem md_X10_like : yX10_like.cls = RX10 ∧ yX10_like.cls ≠ "java/lang/invoke/MethodHandle" ∧ yX10_like.cls ≠ "java/lang/invoke/VarHandle" ∧ (parseMethodDescriptor yX10_like.desc).map (fun d => d.parameters.length) = some 1 := by decide +kernel
theorem md_X10_nests : yX10_nests.cls = RX10 ∧ yX10_nests.cls ≠ "java/lang/invoke/MethodHandle" ∧ yX10_nests.cls ≠ "java/lang/invoke/VarHandle" ∧ (parseMethodDescriptor yX10_nests.desc).map (fun d => d.parameters.length) = some 1 := by decide +kernel
theorem md_X10_now : yX10_now.cls = RX10 ∧ yX10_now.cls ≠ "java/lang/invoke/MethodHandle" ∧ yX10_now.cls ≠ "java/lang/invoke/VarHandle" ∧ (parseMethodDescriptor yX10_now.desc).map (fun d => d.parameters.length) = some 1 := by decide +kernel
theorem md_X10_odds : yX10_odds.cls = RX10 ∧ yX10_odds.cls ≠ "java/lang/invoke/MethodHandle" ∧ yX10_odds.cls ≠ "java/lang/invoke/VarHandle" ∧ (parseMethodDescriptor yX10_odds.desc).map (fun d => d.parameters.length) = some 3 := by decide +kernel
theorem md_X10_quarter : yX10_quarter.cls = RX10 ∧ yX10_quarter.cls ≠ "java/lang/invoke/MethodHandle" ∧ yX10_quarter.cls ≠ "java/lang/invoke/VarHandle" ∧ (parseMethodDescriptor yX10_quarter.desc).map (fun d => d.parameters.length) = some 0 := by decide +kernel
theorem md_X10_restore : yX10_restore.cls = RX10 ∧ yX10_restore.cls ≠ "java/lang/invoke/MethodHandle" ∧ yX10_restore.cls ≠ "java/lang/invoke/VarHandle" ∧ (parseMethodDescriptor yX10_restore.desc).map (fun d => d.parameters.length) = some 1 := by decide +kernel
theorem md_X10_round : yX10_round.cls = RX10 ∧ yX10_round.cls ≠ "java/lang/invoke/MethodHandle" ∧ yX10_round.cls ≠ "java/lang/invoke/VarHandle" ∧ (parseMethodDescriptor yX10_round.desc).map (fun d => d.parameters.length) = some 1 := by decide +kernel
theorem md_X10_rounded : yX10_rounded.cls = RX10 ∧ yX10_rounded.cls ≠ "java/lang/invoke/MethodHandle" ∧ yX10_rounded.cls ≠ "java/lang/invoke/VarHandle" ∧ (parseMethodDescriptor yX10_rounded.desc).map (fun d => d.parameters.length) = some 0 := by decide +kernel
theorem md_X10_said : yX10_said.cls = RX10 ∧ yX10_said.cls ≠ "java/lang/invoke/MethodHandle" ∧ yX10_said.cls ≠ "java/lang/invoke/VarHandle" ∧ (parseMethodDescriptor yX10_said.desc).map (fun d => d.parameters.length) = some 1 := by decide +kernel
theorem md_X10_sentence : yX10_sentence.cls = RX10 ∧ yX10_sentence.cls ≠ "java/lang/invoke/MethodHandle" ∧ yX10_sentence.cls ≠ "java/lang/invoke/VarHandle" ∧ (parseMethodDescriptor yX10_sentence.desc).map (fun d => d.parameters.length) = some 0 := by decide +kernel
theorem md_X10_snag : yX10_snag.cls = RX10 ∧ yX10_snag.cls ≠ "java/lang/invoke/MethodHandle" ∧ yX10_snag.cls ≠ "java/lang/invoke/VarHandle" ∧ (parseMethodDescriptor yX10_snag.desc).map (fun d => d.parameters.length) = some 2 := by decide +kernel
theorem md_X10_stroke : yX10_stroke.cls = RX10 ∧ yX10_stroke.cls ≠ "java/lang/invoke/MethodHandle" ∧ yX10_stroke.cls ≠ "java/lang/invoke/VarHandle" ∧ (parseMethodDescriptor yX10_stroke.desc).map (fun d => d.parameters.length) = some 2 := by decide +kernel
theorem md_X10_stuff : yX10_stuff.cls = RX10 ∧ yX10_stuff.cls ≠ "java/lang/invoke/MethodHandle" ∧ yX10_stuff.cls ≠ "java/lang/invoke/VarHandle" ∧ (parseMethodDescriptor yX10_stuff.desc).map (fun d => d.parameters.length) = some 2 := by decide +kernel
theorem md_X10_tag : yX10_tag.cls = RX10 ∧ yX10_tag.cls ≠ "java/lang/invoke/MethodHandle" ∧ yX10_tag.cls ≠ "java/lang/invoke/VarHandle" ∧ (parseMethodDescriptor yX10_tag.desc).map (fun d => d.parameters.length) = some 1 := by decide +kernel
theorem md_X10_thing : yX10_thing.cls = RX10 ∧ yX10_thing.cls ≠ "java/lang/invoke/MethodHandle" ∧ yX10_thing.cls ≠ "java/lang/invoke/VarHandle" ∧ (parseMethodDescriptor yX10_thing.desc).map (fun d => d.parameters.length) = some 2 := by decide +kernel
theorem md_X10_told : yX10_told.cls = RX10 ∧ yX10_told.cls ≠ "java/lang/invoke/MethodHandle" ∧ yX10_told.cls ≠ "java/lang/invoke/VarHandle" ∧ (parseMethodDescriptor yX10_told.desc).map (fun d => d.parameters.length) = some 1 := by decide +kernel
theorem md_X10_undo : yX10_undo.cls = RX10 ∧ yX10_undo.cls ≠ "java/lang/invoke/MethodHandle" ∧ yX10_undo.cls ≠ "java/lang/invoke/VarHandle" ∧ (parseMethodDescriptor yX10_undo.desc).map (fun d => d.parameters.length) = some 0 := by decide +kernel
theorem md_X11_ask : yX11_ask.cls = RX11 ∧ yX11_ask.cls ≠ "java/lang/invoke/MethodHandle" ∧ yX11_ask.cls ≠ "java/lang/invoke/VarHandle" ∧ (parseMethodDescriptor yX11_ask.desc).map (fun d => d.parameters.length) = some 0 := by decide +kernel
theorem md_X11_bed : yX11_bed.cls = RX11 ∧ yX11_bed.cls ≠ "java/lang/invoke/MethodHandle" ∧ yX11_bed.cls ≠ "java/lang/invoke/VarHandle" ∧ (parseMethodDescriptor yX11_bed.desc).map (fun d => d.parameters.length) = some 2 := by decide +kernel
theorem md_X11_bedded : yX11_bedded.cls = RX11 ∧ yX11_bedded.cls ≠ "java/lang/invoke/MethodHandle" ∧ yX11_bedded.cls ≠ "java/lang/invoke/VarHandle" ∧ (parseMethodDescriptor yX11_bedded.desc).map (fun d => d.parameters.length) = some 0 := by decide +kernel
theorem md_X11_beds : yX11_beds.cls = RX11 ∧ yX11_beds.cls ≠ "java/lang/invoke/MethodHandle" ∧ yX11_beds.cls ≠ "java/lang/invoke/VarHandle" ∧ (parseMethodDescriptor yX11_beds.desc).map (fun d => d.parameters.length) = some 0 := by decide +kernel
theorem md_X11_book : yX11_book.cls = RX11 ∧ yX11_book.cls ≠ "java/lang/invoke/MethodHandle" ∧ yX11_book.cls ≠ "java/lang/invoke/VarHandle" ∧ (parseMethodDescriptor yX11_book.desc).map (fun d => d.parameters.length) = some 1 := by decide +kernel
theorem md_X11_byteAt : yX11_byteAt.cls = RX11 ∧ yX11_byteAt.cls ≠ "java/lang/invoke/MethodHandle" ∧ yX11_byteAt.cls ≠ "java/lang/invoke/VarHandle" ∧ (parseMethodDescriptor yX11_byteAt.desc).map (fun d => d.parameters.length) = some 1 := by decide +kernel
theorem md_X11_count : yX11_count.cls = RX11 ∧ yX11_count.cls ≠ "java/lang/invoke/MethodHandle" ∧ yX11_count.cls ≠ "java/lang/invoke/VarHandle" ∧ (parseMethodDescriptor yX11_count.desc).map (fun d => d.parameters.length) = some 1 := by decide +kernel
theorem md_X11_cut : yX11_cut.cls = RX11 ∧ yX11_cut.cls ≠ "java/lang/invoke/MethodHandle" ∧ yX11_cut.cls ≠ "java/lang/invoke/VarHandle" ∧ (parseMethodDescriptor yX11_cut.desc).map (fun d => d.parameters.length) = some 1 := by decide +kernel
theorem md_X11_days : yX11_days.cls = RX11 ∧ yX11_days.cls ≠ "java/lang/invoke/MethodHandle" ∧ yX11_days.cls ≠ "java/lang/invoke/VarHandle" ∧ (parseMethodDescriptor yX11_days.desc).map (fun d => d.parameters.length) = some 1 := by decide +kernel
theorem md_X11_drawn : yX11_drawn.cls = RX11 ∧ yX11_drawn.cls ≠ "java/lang/invoke/MethodHandle" ∧ yX11_drawn.cls ≠ "java/lang/invoke/VarHandle" ∧ (parseMethodDescriptor yX11_drawn.desc).map (fun d => d.parameters.length) = some 2 := by decide +kernel
theorem md_X11_ease : yX11_ease.cls = RX11 ∧ yX11_ease.cls ≠ "java/lang/invoke/MethodHandle" ∧ yX11_ease.cls ≠ "java/lang/invoke/VarHandle" ∧ (parseMethodDescriptor yX11_ease.desc).map (fun d => d.parameters.length) = some 1 := by decide +kernel
theorem md_X11_end : yX11_end.cls = RX11 ∧ yX11_end.cls ≠ "java/lang/invoke/MethodHandle" ∧ yX11_end.cls ≠ "java/lang/invoke/VarHandle" ∧ (parseMethodDescriptor yX11_end.desc).map (fun d => d.parameters.length) = some 1 := by decide +kernel
theorem md_X11_fault : yX11_fault.cls = RX11 ∧ yX11_fault.cls ≠ "java/lang/invoke/MethodHandle" ∧ yX11_fault.cls ≠ "java/lang/invoke/VarHandle" ∧ (parseMethodDescriptor yX11_fault.desc).map (fun d => d.parameters.length) = some 0 := by decide +kernel
theorem md_X11_feed : yX11_feed.cls = RX11 ∧ yX11_feed.cls ≠ "java/lang/invoke/MethodHandle" ∧ yX11_feed.cls ≠ "java/lang/invoke/VarHandle" ∧ (parseMethodDescriptor yX11_feed.desc).map (fun d => d.parameters.length) = some 5 := by decide +kernel
theorem md_X11_fits : yX11_fits.cls = RX11 ∧ yX11_fits.cls ≠ "java/lang/invoke/MethodHandle" ∧ yX11_fits.cls ≠ "java/lang/invoke/VarHandle" ∧ (parseMethodDescriptor yX11_fits.desc).map (fun d => d.parameters.length) = some 0 := by decide +kernel
theorem md_X11_hardest : yX11_hardest.cls = RX11 ∧ yX11_hardest.cls ≠ "java/lang/invoke/MethodHandle" ∧ yX11_hardest.cls ≠ "java/lang/invoke/VarHandle" ∧ (parseMethodDescriptor yX11_hardest.desc).map (fun d => d.parameters.length) = some 0 := by decide +kernel
theorem md_X11_image : yX11_image.cls = RX11 ∧ yX11_image.cls ≠ "java/lang/invoke/MethodHandle" ∧ yX11_image.cls ≠ "java/lang/invoke/VarHandle" ∧ (parseMethodDescriptor yX11_image.desc).map (fun d => d.parameters.length) = some 1 := by decide +kernel
theorem md_X11_layer : yX11_layer.cls = RX11 ∧ yX11_layer.cls ≠ "java/lang/invoke/MethodHandle" ∧ yX11_layer.cls ≠ "java/lang/invoke/VarHandle" ∧ (parseMethodDescriptor yX11_layer.desc).map (fun d => d.parameters.length) = some 2 := by decide +kernel
theorem md_X11_like : yX11_like.cls = RX11 ∧ yX11_like.cls ≠ "java/lang/invoke/MethodHandle" ∧ yX11_like.cls ≠ "java/lang/invoke/VarHandle" ∧ (parseMethodDescriptor yX11_like.desc).map (fun d => d.parameters.length) = some 1 := by decide +kernel
theorem md_X11_mean : yX11_mean.cls = RX11 ∧ yX11_mean.cls ≠ "java/lang/invoke/MethodHandle" ∧ yX11_mean.cls ≠ "java/lang/invoke/VarHandle" ∧ (parseMethodDescriptor yX11_mean.desc).map (fun d => d.parameters.length) = some 2 := by decide +kernel
theorem md_X11_nests : yX11_nests.cls = RX11 ∧ yX11_nests.cls ≠ "java/lang/invoke/MethodHandle" ∧ yX11_nests.cls ≠ "java/lang/invoke/VarHandle" ∧ (parseMethodDescriptor yX11_nests.desc).map (fun d => d.parameters.length) = some 1 := by decide +kernel
theorem md_X11_now : yX11_now.cls = RX11 ∧ yX11_now.cls ≠ "java/lang/invoke/MethodHandle" ∧ yX11_now.cls ≠ "java/lang/invoke/VarHandle" ∧ (parseMethodDescriptor yX11_now.desc).map (fun d => d.parameters.length) = some 1 := by decide +kernel
theorem md_X11_odds : yX11_odds.cls = RX11 ∧ yX11_odds.cls ≠ "java/lang/invoke/MethodHandle" ∧ yX11_odds.cls ≠ "java/lang/invoke/VarHandle" ∧ (parseMethodDescriptor yX11_odds.desc).map (fun d => d.parameters.length) = some 3 := by decide +kernel
theorem md_X11_person : yX11_person.cls = RX11 ∧ yX11_person.cls ≠ "java/lang/invoke/MethodHandle" ∧ yX11_person.cls ≠ "java/lang/invoke/VarHandle" ∧ (parseMethodDescriptor yX11_person.desc).map (fun d => d.parameters.length) = some 2 := by decide +kernel
theorem md_X11_quarter : yX11_quarter.cls = RX11 ∧ yX11_quarter.cls ≠ "java/lang/invoke/MethodHandle" ∧ yX11_quarter.cls ≠ "java/lang/invoke/VarHandle" ∧ (parseMethodDescriptor yX11_quarter.desc).map (fun d => d.parameters.length) = some 0 := by decide +kernel
theorem md_X11_restore : yX11_restore.cls = RX11 ∧ yX11_restore.cls ≠ "java/lang/invoke/MethodHandle" ∧ yX11_restore.cls ≠ "java/lang/invoke/VarHandle" ∧ (parseMethodDescriptor yX11_restore.desc).map (fun d => d.parameters.length) = some 1 := by decide +kernel
theorem md_X11_round : yX11_round.cls = RX11 ∧ yX11_round.cls ≠ "java/lang/invoke/MethodHandle" ∧ yX11_round.cls ≠ "java/lang/invoke/VarHandle" ∧ (parseMethodDescriptor yX11_round.desc).map (fun d => d.parameters.length) = some 1 := by decide +kernel
theorem md_X11_rounded : yX11_rounded.cls = RX11 ∧ yX11_rounded.cls ≠ "java/lang/invoke/MethodHandle" ∧ yX11_rounded.cls ≠ "java/lang/invoke/VarHandle" ∧ (parseMethodDescriptor yX11_rounded.desc).map (fun d => d.parameters.length) = some 0 := by decide +kernel
theorem md_X11_said : yX11_said.cls = RX11 ∧ yX11_said.cls ≠ "java/lang/invoke/MethodHandle" ∧ yX11_said.cls ≠ "java/lang/invoke/VarHandle" ∧ (parseMethodDescriptor yX11_said.desc).map (fun d => d.parameters.length) = some 1 := by decide +kernel
theorem md_X11_sentence : yX11_sentence.cls = RX11 ∧ yX11_sentence.cls ≠ "java/lang/invoke/MethodHandle" ∧ yX11_sentence.cls ≠ "java/lang/invoke/VarHandle" ∧ (parseMethodDescriptor yX11_sentence.desc).map (fun d => d.parameters.length) = some 0 := by decide +kernel
theorem md_X11_snag : yX11_snag.cls = RX11 ∧ yX11_snag.cls ≠ "java/lang/invoke/MethodHandle" ∧ yX11_snag.cls ≠ "java/lang/invoke/VarHandle" ∧ (parseMethodDescriptor yX11_snag.desc).map (fun d => d.parameters.length) = some 2 := by decide +kernel
theorem md_X11_stroke : yX11_stroke.cls = RX11 ∧ yX11_stroke.cls ≠ "java/lang/invoke/MethodHandle" ∧ yX11_stroke.cls ≠ "java/lang/invoke/VarHandle" ∧ (parseMethodDescriptor yX11_stroke.desc).map (fun d => d.parameters.length) = some 2 := by decide +kernel
theorem md_X11_stuff : yX11_stuff.cls = RX11 ∧ yX11_stuff.cls ≠ "java/lang/invoke/MethodHandle" ∧ yX11_stuff.cls ≠ "java/lang/invoke/VarHandle" ∧ (parseMethodDescriptor yX11_stuff.desc).map (fun d => d.parameters.length) = some 2 := by decide +kernel
theorem md_X11_tag : yX11_tag.cls = RX11 ∧ yX11_tag.cls ≠ "java/lang/invoke/MethodHandle" ∧ yX11_tag.cls ≠ "java/lang/invoke/VarHandle" ∧ (parseMethodDescriptor yX11_tag.desc).map (fun d => d.parameters.length) = some 1 := by decide +kernel
theorem md_X11_thing : yX11_thing.cls = RX11 ∧ yX11_thing.cls ≠ "java/lang/invoke/MethodHandle" ∧ yX11_thing.cls ≠ "java/lang/invoke/VarHandle" ∧ (parseMethodDescriptor yX11_thing.desc).map (fun d => d.parameters.length) = some 2 := by decide +kernel
theorem md_X11_thrown : yX11_thrown.cls = RX11 ∧ yX11_thrown.cls ≠ "java/lang/invoke/MethodHandle" ∧ yX11_thrown.cls ≠ "java/lang/invoke/VarHandle" ∧ (parseMethodDescriptor yX11_thrown.desc).map (fun d => d.parameters.length) = some 0 := by decide +kernel
theorem md_X11_told : yX11_told.cls = RX11 ∧ yX11_told.cls ≠ "java/lang/invoke/MethodHandle" ∧ yX11_told.cls ≠ "java/lang/invoke/VarHandle" ∧ (parseMethodDescriptor yX11_told.desc).map (fun d => d.parameters.length) = some 1 := by decide +kernel
theorem md_X11_undo : yX11_undo.cls = RX11 ∧ yX11_undo.cls ≠ "java/lang/invoke/MethodHandle" ∧ yX11_undo.cls ≠ "java/lang/invoke/VarHandle" ∧ (parseMethodDescriptor yX11_undo.desc).map (fun d => d.parameters.length) = some 0 := by decide +kernel

theorem wm_RLs_41 : Cond.methodLink RL 41 yL_person ∈ gw ∧ Cond.static yL_person ∈ gw ∧ Cond.initialized yL_person.cls ∈ gw ∧ Cond.codeWith yL_person cL_person 5 (some .int) [(0, 10, 13, 13)] ∈ gw := ⟨gw_at 1234 (by decide +kernel) rfl, gw_at 1235 (by decide +kernel) rfl, gw_at 112 (by decide +kernel) rfl, gw_at 1236 (by decide +kernel) rfl⟩
theorem md_L_person : yL_person.cls ≠ "java/lang/invoke/MethodHandle" ∧ yL_person.cls ≠ "java/lang/invoke/VarHandle" ∧ (parseMethodDescriptor yL_person.desc).map (fun d => d.parameters.length) = some 4 := by decide +kernel
theorem wm_RLs_131 : Cond.methodLink RL 131 yL_mean ∈ gw ∧ Cond.static yL_mean ∈ gw ∧ Cond.initialized yL_mean.cls ∈ gw ∧ Cond.codeWith yL_mean cL_mean 5 (some .int) [(0, 10, 13, 13)] ∈ gw := ⟨gw_at 1311 (by decide +kernel) rfl, gw_at 1312 (by decide +kernel) rfl, gw_at 112 (by decide +kernel) rfl, gw_at 1313 (by decide +kernel) rfl⟩
theorem md_L_mean : yL_mean.cls ≠ "java/lang/invoke/MethodHandle" ∧ yL_mean.cls ≠ "java/lang/invoke/VarHandle" ∧ (parseMethodDescriptor yL_mean.desc).map (fun d => d.parameters.length) = some 4 := by decide +kernel
