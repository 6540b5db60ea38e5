def R_law : String := "CombedOutLaw"
def lw_P (b : Addr) (xs : List Int32) (args : Array Value) (s : State) : Prop := args = #[.ref b] ∧ s.IntsAt b xs ∧ xs.length ≤ 3072 ∧ (Jvm.Cond.and given_1 narrow_1).before args s = true
def lw_Q (_ : Array Value) (s : State) (o : Outcome) (t : State) : Prop := o = .returned (some (.int 1)) ∧ Framed s o t [] 601024 7293034
def lw_Z (below : List Frame) (a : Array Value) (s : State) : State → Prop := fun t => ∃ o, t.status = .running ∧ Ended t below o ∧ lw_Q a s o t
/-- the law's own end, with 1 on the stack, nothing written that was there before, its room as the claim has it -/
theorem lw_ret {p : Program} {l : Launch} {e : Env} {s : State} {m : MethodId} {below : List Frame} {meth : Method} {c : Code} {b : Nat} (hx : p.tables.exec = Jvm.exec) (hb : c.code = code) (hr : meth.sig.returnType = ret) (hlocks : meth.locks = false) {pc : Nat} {H : Heap} {ls : Array Slot} (hdg : decode code pc = .ok (.ireturn, 1)) : W p l e room_1 s m #[Value.ref b] below meth c H [] 601024 7293034 (lw_Z below #[Value.ref b] s) (F0 m pc ls [.int 1]) := by
  intro T hT X
  obtain ⟨fs, hret, hrun, hended, hW, hframe⟩ := X.leave (v := some (.int 1)) (hlocks := hlocks) (fun h => by rw [hr] at h; cases h)
  have hmeth' : T.vm.method? m = some meth := X.method'
  refine ⟨T.setFrames fs, ?_, .returned (some (.int 1)), hrun, hended, rfl, ⟨_, rfl⟩, hW, hframe⟩
  jvm_step X.here [X.here.top, hx, hb, hdg, hmeth', hr, ret, narrow_b1]
  (try refine ⟨rfl, ?_⟩); (try refine ⟨rfl, ?_⟩)
  first | (intro acts; rw [hret _ acts rfl rfl rfl]) | rw [hret _ _ rfl rfl rfl]
  exact Steps.refl _
/-- what holds at the law's entry: the machine, the code, the tables' words (any of lw_tbl by 'hts w (by decide +kernel)'), the script of L ints xs at the cell b, what the Statement gives of the start (any of its parts by flat_of_before) -/
def lw_At (p : Program) (s : State) (m : MethodId) (meth : Method) (c : Code) (b L : Nat) (xs : Nat → Int32) : Prop :=
  p.tables.exec = Jvm.exec ∧ c.code = code ∧ meth.sig.returnType = ret ∧ c.maxLocals = 7 ∧ s.vm.findClass R_law = some m.cls ∧ (∀ w ∈ lw_tbl, w.before #[Value.ref b] s = true) ∧ va_X b L xs s s.heap ∧ b < s.heap.size ∧ meth.locks = false ∧ (Jvm.Cond.and given_1 narrow_1).before #[Value.ref b] s = true
/-- what the law's walk needs of its place -/
def FnlL (G : Wc) (b Ln : Nat) (xs : Nat → Int32) (Γ : Cx) : Prop :=
  Γ.2.1.2.2.2.1.sig.returnType = ret ∧ Γ.2.2.1.2.2 = lw_Z Γ.2.1.2.2.1 #[Value.ref b] Γ.1.2.2.2.2 ∧ Γ.2.1.2.1 = #[Value.ref b] ∧ va_X b Ln xs Γ.1.2.2.2.2 Γ.1.2.2.2.2.heap ∧ b < Γ.1.2.2.2.2.heap.size ∧ wZ G = Γ.1.2.2.2.2.heap.size ∧ Γ.1.2.2.2.1 = room_1 ∧ (wL G).stackTraces = false
def bdg (n : Nat) (Γ : Cx) : Prop := Γ.2.2.1.1 + n ≤ Γ.1.2.2.2.1.cells ∧ Γ.2.2.1.2.1 + 6 * n ≤ Γ.1.2.2.2.1.slots
theorem bdg_s {n : Nat} {Γ : Cx} (h : bdg (n + 1) Γ) : bdg n Γ := ⟨Nat.le_trans (by omega) h.1, Nat.le_trans (by omega) h.2⟩
theorem bdg_gx {n : Nat} {Γ : Cx} (h : bdg (n + 1) Γ) : bdg n (gx Γ 1 6) := ⟨Nat.le_trans (by show Γ.2.2.1.1 + 1 + n ≤ _; omega) h.1, Nat.le_trans (by show Γ.2.2.1.2.1 + 6 + 6 * n ≤ _; omega) h.2⟩
theorem FnlL_gx {G : Wc} {b Ln : Nat} {xs : Nat → Int32} {Γ : Cx} (h : FnlL G b Ln xs Γ) : FnlL G b Ln xs (gx Γ 1 6) := h
theorem V_sld {cc : ByteArray} {own : String} {fr lo nL : Nat} {G : Wc} {Γ : Cx} {us : List (Nat × Ob)} {pc : Nat} {L : List (Nat × Value)} {st : List Value} {b Ln : Nat} {xs : Nat → Int32} {i : Int32} (hF : FnlL G b Ln xs Γ) (hin : inB i Ln = true) (d : decode cc pc = .ok (.iaload, 1)) (kk : V cc own fr lo nL G Γ us (pc + 1) L (.int (xs i.toNatClampNeg) :: st)) : V cc own fr lo nL G Γ us pc L (.int i :: .ref b :: st) := by
  intro ok hn H locs ls hP hS hl
  obtain ⟨-, -, -, hX, hbl, hz, -⟩ := hF
  exact va_sld ok.1 ok.2.1 hX hbl (by show ¬ wZ G ≤ b; rw [hz]; omega) hS (inB_in hin) d (kk ok hn H locs ls hP hS hl)
theorem V_slen {cc : ByteArray} {own : String} {fr lo nL : Nat} {G : Wc} {Γ : Cx} {us : List (Nat × Ob)} {pc : Nat} {L : List (Nat × Value)} {st : List Value} {b Ln : Nat} {xs : Nat → Int32} (hF : FnlL G b Ln xs Γ) (d : decode cc pc = .ok (.arraylength, 1)) (kk : V cc own fr lo nL G Γ us (pc + 1) L (.int (Int32.ofNat Ln) :: st)) : V cc own fr lo nL G Γ us pc L (.ref b :: st) := by
  intro ok hn H locs ls hP hS hl
  obtain ⟨-, -, -, hX, hbl, hz, -⟩ := hF
  exact va_slen ok.1 ok.2.1 hX hbl (by show ¬ wZ G ≤ b; rw [hz]; omega) hS d (kk ok hn H locs ls hP hS hl)
theorem V_lawret {own : String} {fr lo nL : Nat} {G : Wc} {Γ : Cx} {us : List (Nat × Ob)} {pc : Nat} {L : List (Nat × Value)} {b Ln : Nat} {xs : Nat → Int32} (hF : FnlL G b Ln xs Γ) (d : decode code pc = .ok (.ireturn, 1)) : V code own fr lo nL G Γ us pc L [.int 1] := by
  intro ok hn H locs ls hP hS hl
  obtain ⟨hr, hQ, ha, hX, hbl, hz, hR, -⟩ := hF
  obtain ⟨hx, hb, hml, hown, hts, hlk, hRm, hcs, hK, hNw, hst0, hD, hz0, hL⟩ := ok
  rw [hQ, ha]
  refine va_forget (fun q hq => by rw [← hz]; exact hS.2.2 q hq) ?_
  rw [hR] at hcs ⊢
  exact W.widen (k := 601024) (n := 7293034) hcs.1 hcs.2 (lw_ret hx hb hr hlk d)
theorem V_callSW {cc : ByteArray} {own : String} {fr lo nL : Nat} {G : Wc} {Γ : Cx} {us : List (Nat × Ob)} {pc : Nat} {L : List (Nat × Value)} {st : List Value} {us1 cu cu1 : List (Nat × Ob)} {y : MethodName} {bytes : ByteArray} {maxL fr1 lo1 n index : Nat} {hh : List (Nat × Nat × Nat × Nat)} {As rest : List Value} {r : Option Value} (is : List Nat)
    (hM : CnW y bytes maxL hh fr1 lo1 G As cu cu1 r) (hnt : (wL G).stackTraces = false) (hsel : is.map (fun i => us[i]?) = cu.map some) (hids : cu1.map (fun q => q.1) = cu.map (fun q => q.1)) (hnd : va_nd is = true) (hus : putL us is cu1 = us1)
    (hw : Cond.methodLink own index y ∈ gw ∧ Cond.static y ∈ gw ∧ Cond.initialized y.cls ∈ gw ∧ Cond.codeWith y bytes maxL (some .int) hh ∈ gw)
    (hd : y.cls ≠ "java/lang/invoke/MethodHandle" ∧ y.cls ≠ "java/lang/invoke/VarHandle" ∧ (parseMethodDescriptor y.desc).map (fun d => d.parameters.length) = some n)
    (hfr : fr1 + 1 ≤ fr) (hlo : 8 + (maxL + 11) + lo1 ≤ lo) (hAs : As.length = n) (hst : st = As.reverse ++ rest) (hrm : (rest.map fun v => v.category).sum ≤ 8) (d : decode cc pc = .ok (.invokestatic index, 3)) (hc1 : Γ.2.2.1.1 + 1 ≤ Γ.1.2.2.2.1.cells) (hs1 : Γ.2.2.1.2.1 + 6 ≤ Γ.1.2.2.2.1.slots)
    (kk : V cc own fr lo nL G (gx Γ 1 6) us1 (pc + 3) L (r.toList ++ rest)) : V cc own fr lo nL G Γ us pc L st := by
  intro ok hn H locs ls hP hS hl
  subst hus
  have okg := ok_gx ok hc1 hs1
  obtain ⟨hx, hb, hml, hown, hts, hlk, hRm, hcs, hK, hNw, hst0, hD, hz, hL⟩ := ok
  obtain ⟨n1, e1⟩ := ov_put (h := Γ.2.2.2) is hn (nd_sub hn is hnd hsel) hsel hids
  have hcu : ∀ q ∈ cu, ov Γ.2.2.2 us q.1 = q.2 := by
    intro q hq
    have h3 : (some q) ∈ is.map (fun i => us[i]?) := by rw [hsel]; exact List.mem_map_of_mem hq
    obtain ⟨j, hj, hj2⟩ := List.mem_map.mp h3
    exact ov_at hn (List.mem_of_getElem? hj2)
  have hMet := hM hnt (nd_sub hn is hnd hsel) (ov Γ.2.2.2 us) hcu
  rw [← hL] at hMet
  have hgood : GoodIn (Cond.codeWith y bytes maxL (some .int) hh :: gw) (va_wsS own index y (Cond.codeWith y bytes maxL (some .int) hh :: gw)) := by
    intro w hw'
    have hmem : w ∈ gw := by
      rcases List.mem_append.mp hw' with h | h
      · simp only [List.mem_cons, List.not_mem_nil, or_false] at h
        rcases h with rfl | rfl | rfl
        · exact hw.1
        · exact hw.2.1
        · exact hw.2.2.1
      · rcases List.mem_cons.mp h with rfl | h
        · exact hw.2.2.2
        · exact h
    exact ⟨List.mem_cons_of_mem _ hmem, good_of_word (gw_good hmem)⟩
  have hts' : ∀ w ∈ Cond.codeWith y bytes maxL (some .int) hh :: gw, w.before Γ.2.1.2.1 Γ.1.2.2.2.2 = true := by
    intro w hw'
    rcases List.mem_cons.mp hw' with rfl | h
    · exact hts _ hw.2.2.2
    · exact hts _ h
  have cw := vx_cwSW (R := Γ.1.2.2.2.1) (rm := rmX fr1 lo1) (mc := 1) (ms := 6) n hts' hgood rfl rfl rfl hd ⟨Nat.le_trans hfr hRm.1, Nat.le_trans hlo hRm.2⟩
  have hpre : PreS Γ.1.2.2.2.2 H (va_Pc As (Wd G (ov Γ.2.2.2 us))) As := by
    refine ⟨fun a U g mk z => ⟨z.1, z.2.1, va_K.moved (Vm.Alike.refl U.vm) z.2.2.1, nwAll.same (u := U) rfl z.2.2.2.1, stF.moved (Vm.Alike.refl U.vm) z.2.2.2.2.1, z.2.2.2.2.2⟩, fun U hU hW => ⟨rfl, by rw [hU]; exact hP, va_K.moved hW.alike hK, nwAll.warm hW hNw, ?_, hD, by rw [hU]; exact Nat.le_trans hz hS.1⟩⟩
    rw [hU]; exact stF.moved hW.alike (stF.kept hst0 (fun a h1 h2 => hS.2.1 a h1 h2))
  have hrun := vx_runSW (p := Γ.1.1) (e := Γ.1.2.2.1) (below := Γ.2.1.2.2.1) (meth := Γ.2.1.2.2.2.1) (locs := locs) (cells := Γ.2.2.1.1) (slots := Γ.2.2.1.2.1) (g := F0 Γ.2.1.1 pc ls st) (rest := rest) ⟨hx, hb, hml, hown, hts'⟩ hMet cw hpre rfl hAs hl.1 hst (lv_room hrm) d ⟨hc1, hs1⟩
  intro T hT X
  obtain ⟨v, st₀, t, T', Ls, h0, X', hLs, e2, e3, ⟨hv, hWd, hF⟩, hgo⟩ := hrun T hT X
  cases hv
  have hS' : va_S (wF G) Γ.1.2.2.2.2.heap T'.heap (locs ++ Ls) := by
    have hF2 := hF
    unfold va_F at hF2
    rw [h0] at hF2
    refine ⟨Nat.le_trans hS.1 (by rw [e2]; exact hF2.1), fun a h1 h2 => by rw [e2, hF2.2 a (Nat.lt_of_lt_of_le h1 hS.1) h2]; exact hS.2.1 a h1 h2, fun a ha => ?_⟩
    rcases List.mem_append.mp ha with h | h
    · exact hS.2.2 a h
    · exact hLs a h
  obtain ⟨t2, a1, b1⟩ := kk okg n1 T'.heap (locs ++ Ls) ls (by rw [e2]; show va_P (wD G) vwCl (allc G (ov Γ.2.2.2 (putL us is cu1))) t.heap; rw [e1]; exact hWd.1) hS' hl T' rfl X'
  exact ⟨t2, hgo t2 a1, b1⟩
theorem ci_6 : Int32.ofInt (6) = (6 : Int32) := by decide
theorem wx_563 : Cond.instanceMethod yX10_feed ∈ gw := gw_at 563 (by decide +kernel) rfl
theorem wx_564 : Cond.selects RX10 yX10_feed yX10_feed ∈ gw := gw_at 564 (by decide +kernel) rfl
theorem wx_565 : Cond.code yX10_feed cX10_feed 6 (some .int) ∈ gw := gw_at 565 (by decide +kernel) rfl
theorem wm_RL_22 : Cond.methodLink RL 22 yX10_feed ∈ gw ∧ Cond.instanceMethod yX10_feed ∈ gw ∧ Cond.selects RX10 yX10_feed yX10_feed ∈ gw ∧ Cond.initialized RX10 ∈ gw ∧ Cond.code yX10_feed cX10_feed 6 (some .int) ∈ gw := ⟨gw_at 562 (by decide +kernel) rfl, wx_563, wx_564, wx_115, wx_565⟩
theorem wx_1338 : Cond.instanceMethod yX11_feed ∈ gw := gw_at 1338 (by decide +kernel) rfl
theorem wx_1339 : Cond.selects RX11 yX11_feed yX11_feed ∈ gw := gw_at 1339 (by decide +kernel) rfl
theorem wx_1340 : Cond.code yX11_feed cX11_feed 6 (some .int) ∈ gw := gw_at 1340 (by decide +kernel) rfl
theorem wm_RL_26 : Cond.methodLink RL 26 yX11_feed ∈ gw ∧ Cond.instanceMethod yX11_feed ∈ gw ∧ Cond.selects RX11 yX11_feed yX11_feed ∈ gw ∧ Cond.initialized RX11 ∈ gw ∧ Cond.code yX11_feed cX11_feed 6 (some .int) ∈ gw := ⟨gw_at 1337 (by decide +kernel) rfl, wx_1338, wx_1339, wx_125, wx_1340⟩
theorem wx_571 : Cond.instanceMethod yX10_end ∈ gw := gw_at 571 (by decide +kernel) rfl
theorem wx_572 : Cond.selects RX10 yX10_end yX10_end ∈ gw := gw_at 572 (by decide +kernel) rfl
theorem wx_573 : Cond.code yX10_end cX10_end 2 (some .boolean) ∈ gw := gw_at 573 (by decide +kernel) rfl
theorem wm_RL_27 : Cond.methodLink RL 27 yX10_end ∈ gw ∧ Cond.instanceMethod yX10_end ∈ gw ∧ Cond.selects RX10 yX10_end yX10_end ∈ gw ∧ Cond.initialized RX10 ∈ gw ∧ Cond.code yX10_end cX10_end 2 (some .boolean) ∈ gw := ⟨gw_at 570 (by decide +kernel) rfl, wx_571, wx_572, wx_115, wx_573⟩
theorem wx_1347 : Cond.instanceMethod yX11_end ∈ gw := gw_at 1347 (by decide +kernel) rfl
theorem wx_1348 : Cond.selects RX11 yX11_end yX11_end ∈ gw := gw_at 1348 (by decide +kernel) rfl
theorem wx_1349 : Cond.code yX11_end cX11_end 2 (some .boolean) ∈ gw := gw_at 1349 (by decide +kernel) rfl
theorem wm_RL_31 : Cond.methodLink RL 31 yX11_end ∈ gw ∧ Cond.instanceMethod yX11_end ∈ gw ∧ Cond.selects RX11 yX11_end yX11_end ∈ gw ∧ Cond.initialized RX11 ∈ gw ∧ Cond.code yX11_end cX11_end 2 (some .boolean) ∈ gw := ⟨gw_at 1346 (by decide +kernel) rfl, wx_1347, wx_1348, wx_125, wx_1349⟩
theorem wx_575 : Cond.instanceMethod yX10_quarter ∈ gw := gw_at 575 (by decide +kernel) rfl
theorem wx_576 : Cond.selects RX10 yX10_quarter yX10_quarter ∈ gw := gw_at 576 (by decide +kernel) rfl
theorem wx_577 : Cond.code yX10_quarter cX10_quarter 2 (some .int) ∈ gw := gw_at 577 (by decide +kernel) rfl
theorem wm_RL_32 : Cond.methodLink RL 32 yX10_quarter ∈ gw ∧ Cond.instanceMethod yX10_quarter ∈ gw ∧ Cond.selects RX10 yX10_quarter yX10_quarter ∈ gw ∧ Cond.initialized RX10 ∈ gw ∧ Cond.code yX10_quarter cX10_quarter 2 (some .int) ∈ gw := ⟨gw_at 574 (by decide +kernel) rfl, wx_575, wx_576, wx_115, wx_577⟩
theorem wx_1531 : Cond.instanceMethod yX11_quarter ∈ gw := gw_at 1531 (by decide +kernel) rfl
theorem wx_1532 : Cond.selects RX11 yX11_quarter yX11_quarter ∈ gw := gw_at 1532 (by decide +kernel) rfl
theorem wx_1533 : Cond.code yX11_quarter cX11_quarter 2 (some .int) ∈ gw := gw_at 1533 (by decide +kernel) rfl
theorem wm_RL_36 : Cond.methodLink RL 36 yX11_quarter ∈ gw ∧ Cond.instanceMethod yX11_quarter ∈ gw ∧ Cond.selects RX11 yX11_quarter yX11_quarter ∈ gw ∧ Cond.initialized RX11 ∈ gw ∧ Cond.code yX11_quarter cX11_quarter 2 (some .int) ∈ gw := ⟨gw_at 1530 (by decide +kernel) rfl, wx_1531, wx_1532, wx_125, wx_1533⟩
theorem wx_715 : Cond.instanceMethod yX10_fault ∈ gw := gw_at 715 (by decide +kernel) rfl
theorem wx_716 : Cond.selects RX10 yX10_fault yX10_fault ∈ gw := gw_at 716 (by decide +kernel) rfl
theorem wx_717 : Cond.code yX10_fault cX10_fault 1 (some .int) ∈ gw := gw_at 717 (by decide +kernel) rfl
theorem wm_RL_37 : Cond.methodLink RL 37 yX10_fault ∈ gw ∧ Cond.instanceMethod yX10_fault ∈ gw ∧ Cond.selects RX10 yX10_fault yX10_fault ∈ gw ∧ Cond.initialized RX10 ∈ gw ∧ Cond.code yX10_fault cX10_fault 1 (some .int) ∈ gw := ⟨gw_at 714 (by decide +kernel) rfl, wx_715, wx_716, wx_115, wx_717⟩
theorem wx_1624 : Cond.instanceMethod yX11_fault ∈ gw := gw_at 1624 (by decide +kernel) rfl
theorem wx_1625 : Cond.selects RX11 yX11_fault yX11_fault ∈ gw := gw_at 1625 (by decide +kernel) rfl
theorem wx_1626 : Cond.code yX11_fault cX11_fault 1 (some .int) ∈ gw := gw_at 1626 (by decide +kernel) rfl
theorem wm_RL_40 : Cond.methodLink RL 40 yX11_fault ∈ gw ∧ Cond.instanceMethod yX11_fault ∈ gw ∧ Cond.selects RX11 yX11_fault yX11_fault ∈ gw ∧ Cond.initialized RX11 ∈ gw ∧ Cond.code yX11_fault cX11_fault 1 (some .int) ∈ gw := ⟨gw_at 1623 (by decide +kernel) rfl, wx_1624, wx_1625, wx_125, wx_1626⟩
theorem wx_1628 : Cond.instanceMethod yX11_person ∈ gw := gw_at 1628 (by decide +kernel) rfl
theorem wx_1629 : Cond.selects RX11 yX11_person yX11_person ∈ gw := gw_at 1629 (by decide +kernel) rfl
theorem wx_1630 : Cond.code yX11_person cX11_person 3 (some .int) ∈ gw := gw_at 1630 (by decide +kernel) rfl
theorem wm_RL_46 : Cond.methodLink RL 46 yX11_person ∈ gw ∧ Cond.instanceMethod yX11_person ∈ gw ∧ Cond.selects RX11 yX11_person yX11_person ∈ gw ∧ Cond.initialized RX11 ∈ gw ∧ Cond.code yX11_person cX11_person 3 (some .int) ∈ gw := ⟨gw_at 1627 (by decide +kernel) rfl, wx_1628, wx_1629, wx_125, wx_1630⟩
theorem wx_1334 : Cond.instanceMethod yX11_thrown ∈ gw := gw_at 1334 (by decide +kernel) rfl
theorem wx_1335 : Cond.selects RX11 yX11_thrown yX11_thrown ∈ gw := gw_at 1335 (by decide +kernel) rfl
theorem wx_1336 : Cond.code yX11_thrown cX11_thrown 1 (some .int) ∈ gw := gw_at 1336 (by decide +kernel) rfl
theorem wm_RL_47 : Cond.methodLink RL 47 yX11_thrown ∈ gw ∧ Cond.instanceMethod yX11_thrown ∈ gw ∧ Cond.selects RX11 yX11_thrown yX11_thrown ∈ gw ∧ Cond.initialized RX11 ∈ gw ∧ Cond.code yX11_thrown cX11_thrown 1 (some .int) ∈ gw := ⟨gw_at 1333 (by decide +kernel) rfl, wx_1334, wx_1335, wx_125, wx_1336⟩
theorem wx_719 : Cond.instanceMethod yX10_layer ∈ gw := gw_at 719 (by decide +kernel) rfl
theorem wx_720 : Cond.selects RX10 yX10_layer yX10_layer ∈ gw := gw_at 720 (by decide +kernel) rfl
theorem wx_721 : Cond.code yX10_layer cX10_layer 3 (some .int) ∈ gw := gw_at 721 (by decide +kernel) rfl
theorem wm_RL_50 : Cond.methodLink RL 50 yX10_layer ∈ gw ∧ Cond.instanceMethod yX10_layer ∈ gw ∧ Cond.selects RX10 yX10_layer yX10_layer ∈ gw ∧ Cond.initialized RX10 ∈ gw ∧ Cond.code yX10_layer cX10_layer 3 (some .int) ∈ gw := ⟨gw_at 718 (by decide +kernel) rfl, wx_719, wx_720, wx_115, wx_721⟩
theorem wx_1664 : Cond.instanceMethod yX11_layer ∈ gw := gw_at 1664 (by decide +kernel) rfl
theorem wx_1665 : Cond.selects RX11 yX11_layer yX11_layer ∈ gw := gw_at 1665 (by decide +kernel) rfl
theorem wx_1666 : Cond.code yX11_layer cX11_layer 3 (some .int) ∈ gw := gw_at 1666 (by decide +kernel) rfl
theorem wm_RL_53 : Cond.methodLink RL 53 yX11_layer ∈ gw ∧ Cond.instanceMethod yX11_layer ∈ gw ∧ Cond.selects RX11 yX11_layer yX11_layer ∈ gw ∧ Cond.initialized RX11 ∈ gw ∧ Cond.code yX11_layer cX11_layer 3 (some .int) ∈ gw := ⟨gw_at 1663 (by decide +kernel) rfl, wx_1664, wx_1665, wx_125, wx_1666⟩
theorem wx_731 : Cond.instanceMethod yX10_thing ∈ gw := gw_at 731 (by decide +kernel) rfl
theorem wx_732 : Cond.selects RX10 yX10_thing yX10_thing ∈ gw := gw_at 732 (by decide +kernel) rfl
theorem wx_733 : Cond.code yX10_thing cX10_thing 3 (some .int) ∈ gw := gw_at 733 (by decide +kernel) rfl
theorem wm_RL_54 : Cond.methodLink RL 54 yX10_thing ∈ gw ∧ Cond.instanceMethod yX10_thing ∈ gw ∧ Cond.selects RX10 yX10_thing yX10_thing ∈ gw ∧ Cond.initialized RX10 ∈ gw ∧ Cond.code yX10_thing cX10_thing 3 (some .int) ∈ gw := ⟨gw_at 730 (by decide +kernel) rfl, wx_731, wx_732, wx_115, wx_733⟩
theorem wx_1668 : Cond.instanceMethod yX11_thing ∈ gw := gw_at 1668 (by decide +kernel) rfl
theorem wx_1669 : Cond.selects RX11 yX11_thing yX11_thing ∈ gw := gw_at 1669 (by decide +kernel) rfl
theorem wx_1670 : Cond.code yX11_thing cX11_thing 5 (some .int) ∈ gw := gw_at 1670 (by decide +kernel) rfl
theorem wm_RL_57 : Cond.methodLink RL 57 yX11_thing ∈ gw ∧ Cond.instanceMethod yX11_thing ∈ gw ∧ Cond.selects RX11 yX11_thing yX11_thing ∈ gw ∧ Cond.initialized RX11 ∈ gw ∧ Cond.code yX11_thing cX11_thing 5 (some .int) ∈ gw := ⟨gw_at 1667 (by decide +kernel) rfl, wx_1668, wx_1669, wx_125, wx_1670⟩
theorem wx_752 : Cond.instanceMethod yX10_bed ∈ gw := gw_at 752 (by decide +kernel) rfl
theorem wx_753 : Cond.selects RX10 yX10_bed yX10_bed ∈ gw := gw_at 753 (by decide +kernel) rfl
theorem wx_754 : Cond.code yX10_bed cX10_bed 3 (some .int) ∈ gw := gw_at 754 (by decide +kernel) rfl
theorem wm_RL_58 : Cond.methodLink RL 58 yX10_bed ∈ gw ∧ Cond.instanceMethod yX10_bed ∈ gw ∧ Cond.selects RX10 yX10_bed yX10_bed ∈ gw ∧ Cond.initialized RX10 ∈ gw ∧ Cond.code yX10_bed cX10_bed 3 (some .int) ∈ gw := ⟨gw_at 751 (by decide +kernel) rfl, wx_752, wx_753, wx_115, wx_754⟩
theorem wx_1684 : Cond.instanceMethod yX11_bed ∈ gw := gw_at 1684 (by decide +kernel) rfl
theorem wx_1685 : Cond.selects RX11 yX11_bed yX11_bed ∈ gw := gw_at 1685 (by decide +kernel) rfl
theorem wx_1686 : Cond.code yX11_bed cX11_bed 3 (some .int) ∈ gw := gw_at 1686 (by decide +kernel) rfl
theorem wm_RL_61 : Cond.methodLink RL 61 yX11_bed ∈ gw ∧ Cond.instanceMethod yX11_bed ∈ gw ∧ Cond.selects RX11 yX11_bed yX11_bed ∈ gw ∧ Cond.initialized RX11 ∈ gw ∧ Cond.code yX11_bed cX11_bed 3 (some .int) ∈ gw := ⟨gw_at 1683 (by decide +kernel) rfl, wx_1684, wx_1685, wx_125, wx_1686⟩
theorem wx_764 : Cond.instanceMethod yX10_now ∈ gw := gw_at 764 (by decide +kernel) rfl
theorem wx_765 : Cond.selects RX10 yX10_now yX10_now ∈ gw := gw_at 765 (by decide +kernel) rfl
theorem wx_766 : Cond.code yX10_now cX10_now 2 (some .int) ∈ gw := gw_at 766 (by decide +kernel) rfl
theorem wm_RL_62 : Cond.methodLink RL 62 yX10_now ∈ gw ∧ Cond.instanceMethod yX10_now ∈ gw ∧ Cond.selects RX10 yX10_now yX10_now ∈ gw ∧ Cond.initialized RX10 ∈ gw ∧ Cond.code yX10_now cX10_now 2 (some .int) ∈ gw := ⟨gw_at 763 (by decide +kernel) rfl, wx_764, wx_765, wx_115, wx_766⟩
theorem wx_1696 : Cond.instanceMethod yX11_now ∈ gw := gw_at 1696 (by decide +kernel) rfl
theorem wx_1697 : Cond.selects RX11 yX11_now yX11_now ∈ gw := gw_at 1697 (by decide +kernel) rfl
theorem wx_1698 : Cond.code yX11_now cX11_now 4 (some .int) ∈ gw := gw_at 1698 (by decide +kernel) rfl
theorem wm_RL_66 : Cond.methodLink RL 66 yX11_now ∈ gw ∧ Cond.instanceMethod yX11_now ∈ gw ∧ Cond.selects RX11 yX11_now yX11_now ∈ gw ∧ Cond.initialized RX11 ∈ gw ∧ Cond.code yX11_now cX11_now 4 (some .int) ∈ gw := ⟨gw_at 1695 (by decide +kernel) rfl, wx_1696, wx_1697, wx_125, wx_1698⟩
theorem wx_778 : Cond.instanceMethod yX10_stroke ∈ gw := gw_at 778 (by decide +kernel) rfl
theorem wx_779 : Cond.selects RX10 yX10_stroke yX10_stroke ∈ gw := gw_at 779 (by decide +kernel) rfl
theorem wx_780 : Cond.code yX10_stroke cX10_stroke 4 (some .int) ∈ gw := gw_at 780 (by decide +kernel) rfl
theorem wm_RL_67 : Cond.methodLink RL 67 yX10_stroke ∈ gw ∧ Cond.instanceMethod yX10_stroke ∈ gw ∧ Cond.selects RX10 yX10_stroke yX10_stroke ∈ gw ∧ Cond.initialized RX10 ∈ gw ∧ Cond.code yX10_stroke cX10_stroke 4 (some .int) ∈ gw := ⟨gw_at 777 (by decide +kernel) rfl, wx_778, wx_779, wx_115, wx_780⟩
theorem wx_1708 : Cond.instanceMethod yX11_stroke ∈ gw := gw_at 1708 (by decide +kernel) rfl
theorem wx_1709 : Cond.selects RX11 yX11_stroke yX11_stroke ∈ gw := gw_at 1709 (by decide +kernel) rfl
theorem wx_1710 : Cond.code yX11_stroke cX11_stroke 4 (some .int) ∈ gw := gw_at 1710 (by decide +kernel) rfl
theorem wm_RL_70 : Cond.methodLink RL 70 yX11_stroke ∈ gw ∧ Cond.instanceMethod yX11_stroke ∈ gw ∧ Cond.selects RX11 yX11_stroke yX11_stroke ∈ gw ∧ Cond.initialized RX11 ∈ gw ∧ Cond.code yX11_stroke cX11_stroke 4 (some .int) ∈ gw := ⟨gw_at 1707 (by decide +kernel) rfl, wx_1708, wx_1709, wx_125, wx_1710⟩
theorem wx_817 : Cond.instanceMethod yX10_cut ∈ gw := gw_at 817 (by decide +kernel) rfl
theorem wx_818 : Cond.selects RX10 yX10_cut yX10_cut ∈ gw := gw_at 818 (by decide +kernel) rfl
theorem wx_819 : Cond.code yX10_cut cX10_cut 3 (some .int) ∈ gw := gw_at 819 (by decide +kernel) rfl
theorem wm_RL_71 : Cond.methodLink RL 71 yX10_cut ∈ gw ∧ Cond.instanceMethod yX10_cut ∈ gw ∧ Cond.selects RX10 yX10_cut yX10_cut ∈ gw ∧ Cond.initialized RX10 ∈ gw ∧ Cond.code yX10_cut cX10_cut 3 (some .int) ∈ gw := ⟨gw_at 816 (by decide +kernel) rfl, wx_817, wx_818, wx_115, wx_819⟩
theorem wx_1731 : Cond.instanceMethod yX11_cut ∈ gw := gw_at 1731 (by decide +kernel) rfl
theorem wx_1732 : Cond.selects RX11 yX11_cut yX11_cut ∈ gw := gw_at 1732 (by decide +kernel) rfl
theorem wx_1733 : Cond.code yX11_cut cX11_cut 2 (some .int) ∈ gw := gw_at 1733 (by decide +kernel) rfl
theorem wm_RL_74 : Cond.methodLink RL 74 yX11_cut ∈ gw ∧ Cond.instanceMethod yX11_cut ∈ gw ∧ Cond.selects RX11 yX11_cut yX11_cut ∈ gw ∧ Cond.initialized RX11 ∈ gw ∧ Cond.code yX11_cut cX11_cut 2 (some .int) ∈ gw := ⟨gw_at 1730 (by decide +kernel) rfl, wx_1731, wx_1732, wx_125, wx_1733⟩
theorem wx_829 : Cond.instanceMethod yX10_snag ∈ gw := gw_at 829 (by decide +kernel) rfl
theorem wx_830 : Cond.selects RX10 yX10_snag yX10_snag ∈ gw := gw_at 830 (by decide +kernel) rfl
theorem wx_831 : Cond.code yX10_snag cX10_snag 4 (some .int) ∈ gw := gw_at 831 (by decide +kernel) rfl
theorem wm_RL_75 : Cond.methodLink RL 75 yX10_snag ∈ gw ∧ Cond.instanceMethod yX10_snag ∈ gw ∧ Cond.selects RX10 yX10_snag yX10_snag ∈ gw ∧ Cond.initialized RX10 ∈ gw ∧ Cond.code yX10_snag cX10_snag 4 (some .int) ∈ gw := ⟨gw_at 828 (by decide +kernel) rfl, wx_829, wx_830, wx_115, wx_831⟩
theorem wx_1739 : Cond.instanceMethod yX11_snag ∈ gw := gw_at 1739 (by decide +kernel) rfl
theorem wx_1740 : Cond.selects RX11 yX11_snag yX11_snag ∈ gw := gw_at 1740 (by decide +kernel) rfl
theorem wx_1741 : Cond.code yX11_snag cX11_snag 3 (some .int) ∈ gw := gw_at 1741 (by decide +kernel) rfl
theorem wm_RL_78 : Cond.methodLink RL 78 yX11_snag ∈ gw ∧ Cond.instanceMethod yX11_snag ∈ gw ∧ Cond.selects RX11 yX11_snag yX11_snag ∈ gw ∧ Cond.initialized RX11 ∈ gw ∧ Cond.code yX11_snag cX11_snag 3 (some .int) ∈ gw := ⟨gw_at 1738 (by decide +kernel) rfl, wx_1739, wx_1740, wx_125, wx_1741⟩
theorem wx_838 : Cond.instanceMethod yX10_stuff ∈ gw := gw_at 838 (by decide +kernel) rfl
theorem wx_839 : Cond.selects RX10 yX10_stuff yX10_stuff ∈ gw := gw_at 839 (by decide +kernel) rfl
theorem wx_840 : Cond.code yX10_stuff cX10_stuff 4 (some .int) ∈ gw := gw_at 840 (by decide +kernel) rfl
theorem wm_RL_79 : Cond.methodLink RL 79 yX10_stuff ∈ gw ∧ Cond.instanceMethod yX10_stuff ∈ gw ∧ Cond.selects RX10 yX10_stuff yX10_stuff ∈ gw ∧ Cond.initialized RX10 ∈ gw ∧ Cond.code yX10_stuff cX10_stuff 4 (some .int) ∈ gw := ⟨gw_at 837 (by decide +kernel) rfl, wx_838, wx_839, wx_115, wx_840⟩
theorem wx_1747 : Cond.instanceMethod yX11_stuff ∈ gw := gw_at 1747 (by decide +kernel) rfl
theorem wx_1748 : Cond.selects RX11 yX11_stuff yX11_stuff ∈ gw := gw_at 1748 (by decide +kernel) rfl
theorem wx_1749 : Cond.code yX11_stuff cX11_stuff 3 (some .int) ∈ gw := gw_at 1749 (by decide +kernel) rfl
theorem wm_RL_82 : Cond.methodLink RL 82 yX11_stuff ∈ gw ∧ Cond.instanceMethod yX11_stuff ∈ gw ∧ Cond.selects RX11 yX11_stuff yX11_stuff ∈ gw ∧ Cond.initialized RX11 ∈ gw ∧ Cond.code yX11_stuff cX11_stuff 3 (some .int) ∈ gw := ⟨gw_at 1746 (by decide +kernel) rfl, wx_1747, wx_1748, wx_125, wx_1749⟩
theorem wx_850 : Cond.instanceMethod yX10_days ∈ gw := gw_at 850 (by decide +kernel) rfl
theorem wx_851 : Cond.selects RX10 yX10_days yX10_days ∈ gw := gw_at 851 (by decide +kernel) rfl
theorem wx_852 : Cond.code yX10_days cX10_days 3 (some .int) ∈ gw := gw_at 852 (by decide +kernel) rfl
theorem wm_RL_83 : Cond.methodLink RL 83 yX10_days ∈ gw ∧ Cond.instanceMethod yX10_days ∈ gw ∧ Cond.selects RX10 yX10_days yX10_days ∈ gw ∧ Cond.initialized RX10 ∈ gw ∧ Cond.code yX10_days cX10_days 3 (some .int) ∈ gw := ⟨gw_at 849 (by decide +kernel) rfl, wx_850, wx_851, wx_115, wx_852⟩
theorem wx_1755 : Cond.instanceMethod yX11_days ∈ gw := gw_at 1755 (by decide +kernel) rfl
theorem wx_1756 : Cond.selects RX11 yX11_days yX11_days ∈ gw := gw_at 1756 (by decide +kernel) rfl
theorem wx_1757 : Cond.code yX11_days cX11_days 2 (some .int) ∈ gw := gw_at 1757 (by decide +kernel) rfl
theorem wm_RL_86 : Cond.methodLink RL 86 yX11_days ∈ gw ∧ Cond.instanceMethod yX11_days ∈ gw ∧ Cond.selects RX11 yX11_days yX11_days ∈ gw ∧ Cond.initialized RX11 ∈ gw ∧ Cond.code yX11_days cX11_days 2 (some .int) ∈ gw := ⟨gw_at 1754 (by decide +kernel) rfl, wx_1755, wx_1756, wx_125, wx_1757⟩
theorem wx_872 : Cond.instanceMethod yX10_undo ∈ gw := gw_at 872 (by decide +kernel) rfl
theorem wx_873 : Cond.selects RX10 yX10_undo yX10_undo ∈ gw := gw_at 873 (by decide +kernel) rfl
theorem wx_874 : Cond.code yX10_undo cX10_undo 1 (some .int) ∈ gw := gw_at 874 (by decide +kernel) rfl
theorem wm_RL_87 : Cond.methodLink RL 87 yX10_undo ∈ gw ∧ Cond.instanceMethod yX10_undo ∈ gw ∧ Cond.selects RX10 yX10_undo yX10_undo ∈ gw ∧ Cond.initialized RX10 ∈ gw ∧ Cond.code yX10_undo cX10_undo 1 (some .int) ∈ gw := ⟨gw_at 871 (by decide +kernel) rfl, wx_872, wx_873, wx_115, wx_874⟩
theorem wx_1767 : Cond.instanceMethod yX11_undo ∈ gw := gw_at 1767 (by decide +kernel) rfl
theorem wx_1768 : Cond.selects RX11 yX11_undo yX11_undo ∈ gw := gw_at 1768 (by decide +kernel) rfl
theorem wx_1769 : Cond.code yX11_undo cX11_undo 2 (some .int) ∈ gw := gw_at 1769 (by decide +kernel) rfl
theorem wm_RL_90 : Cond.methodLink RL 90 yX11_undo ∈ gw ∧ Cond.instanceMethod yX11_undo ∈ gw ∧ Cond.selects RX11 yX11_undo yX11_undo ∈ gw ∧ Cond.initialized RX11 ∈ gw ∧ Cond.code yX11_undo cX11_undo 2 (some .int) ∈ gw := ⟨gw_at 1766 (by decide +kernel) rfl, wx_1767, wx_1768, wx_125, wx_1769⟩
theorem wx_880 : Cond.instanceMethod yX10_ease ∈ gw := gw_at 880 (by decide +kernel) rfl
theorem wx_881 : Cond.selects RX10 yX10_ease yX10_ease ∈ gw := gw_at 881 (by decide +kernel) rfl
theorem wx_882 : Cond.code yX10_ease cX10_ease 2 (some .int) ∈ gw := gw_at 882 (by decide +kernel) rfl
theorem wm_RL_91 : Cond.methodLink RL 91 yX10_ease ∈ gw ∧ Cond.instanceMethod yX10_ease ∈ gw ∧ Cond.selects RX10 yX10_ease yX10_ease ∈ gw ∧ Cond.initialized RX10 ∈ gw ∧ Cond.code yX10_ease cX10_ease 2 (some .int) ∈ gw := ⟨gw_at 879 (by decide +kernel) rfl, wx_880, wx_881, wx_115, wx_882⟩
theorem wx_1771 : Cond.instanceMethod yX11_ease ∈ gw := gw_at 1771 (by decide +kernel) rfl
theorem wx_1772 : Cond.selects RX11 yX11_ease yX11_ease ∈ gw := gw_at 1772 (by decide +kernel) rfl
theorem wx_1773 : Cond.code yX11_ease cX11_ease 2 (some .int) ∈ gw := gw_at 1773 (by decide +kernel) rfl
theorem wm_RL_94 : Cond.methodLink RL 94 yX11_ease ∈ gw ∧ Cond.instanceMethod yX11_ease ∈ gw ∧ Cond.selects RX11 yX11_ease yX11_ease ∈ gw ∧ Cond.initialized RX11 ∈ gw ∧ Cond.code yX11_ease cX11_ease 2 (some .int) ∈ gw := ⟨gw_at 1770 (by decide +kernel) rfl, wx_1771, wx_1772, wx_125, wx_1773⟩
theorem wx_894 : Cond.instanceMethod yX10_nests ∈ gw := gw_at 894 (by decide +kernel) rfl
theorem wx_895 : Cond.selects RX10 yX10_nests yX10_nests ∈ gw := gw_at 895 (by decide +kernel) rfl
theorem wx_896 : Cond.code yX10_nests cX10_nests 2 (some .int) ∈ gw := gw_at 896 (by decide +kernel) rfl
theorem wm_RL_95 : Cond.methodLink RL 95 yX10_nests ∈ gw ∧ Cond.instanceMethod yX10_nests ∈ gw ∧ Cond.selects RX10 yX10_nests yX10_nests ∈ gw ∧ Cond.initialized RX10 ∈ gw ∧ Cond.code yX10_nests cX10_nests 2 (some .int) ∈ gw := ⟨gw_at 893 (by decide +kernel) rfl, wx_894, wx_895, wx_115, wx_896⟩
theorem wx_1779 : Cond.instanceMethod yX11_nests ∈ gw := gw_at 1779 (by decide +kernel) rfl
theorem wx_1780 : Cond.selects RX11 yX11_nests yX11_nests ∈ gw := gw_at 1780 (by decide +kernel) rfl
theorem wx_1781 : Cond.code yX11_nests cX11_nests 4 (some .int) ∈ gw := gw_at 1781 (by decide +kernel) rfl
theorem wm_RL_98 : Cond.methodLink RL 98 yX11_nests ∈ gw ∧ Cond.instanceMethod yX11_nests ∈ gw ∧ Cond.selects RX11 yX11_nests yX11_nests ∈ gw ∧ Cond.initialized RX11 ∈ gw ∧ Cond.code yX11_nests cX11_nests 4 (some .int) ∈ gw := ⟨gw_at 1778 (by decide +kernel) rfl, wx_1779, wx_1780, wx_125, wx_1781⟩
theorem wx_907 : Cond.instanceMethod yX10_round ∈ gw := gw_at 907 (by decide +kernel) rfl
theorem wx_908 : Cond.selects RX10 yX10_round yX10_round ∈ gw := gw_at 908 (by decide +kernel) rfl
theorem wx_909 : Cond.code yX10_round cX10_round 2 (some .int) ∈ gw := gw_at 909 (by decide +kernel) rfl
theorem wm_RL_99 : Cond.methodLink RL 99 yX10_round ∈ gw ∧ Cond.instanceMethod yX10_round ∈ gw ∧ Cond.selects RX10 yX10_round yX10_round ∈ gw ∧ Cond.initialized RX10 ∈ gw ∧ Cond.code yX10_round cX10_round 2 (some .int) ∈ gw := ⟨gw_at 906 (by decide +kernel) rfl, wx_907, wx_908, wx_115, wx_909⟩
theorem wx_1791 : Cond.instanceMethod yX11_round ∈ gw := gw_at 1791 (by decide +kernel) rfl
theorem wx_1792 : Cond.selects RX11 yX11_round yX11_round ∈ gw := gw_at 1792 (by decide +kernel) rfl
theorem wx_1793 : Cond.code yX11_round cX11_round 8 (some .int) ∈ gw := gw_at 1793 (by decide +kernel) rfl
theorem wm_RL_102 : Cond.methodLink RL 102 yX11_round ∈ gw ∧ Cond.instanceMethod yX11_round ∈ gw ∧ Cond.selects RX11 yX11_round yX11_round ∈ gw ∧ Cond.initialized RX11 ∈ gw ∧ Cond.code yX11_round cX11_round 8 (some .int) ∈ gw := ⟨gw_at 1790 (by decide +kernel) rfl, wx_1791, wx_1792, wx_125, wx_1793⟩
theorem wx_927 : Cond.instanceMethod yX10_rounded ∈ gw := gw_at 927 (by decide +kernel) rfl
theorem wx_928 : Cond.selects RX10 yX10_rounded yX10_rounded ∈ gw := gw_at 928 (by decide +kernel) rfl
theorem wx_929 : Cond.code yX10_rounded cX10_rounded 1 (some .int) ∈ gw := gw_at 929 (by decide +kernel) rfl
theorem wm_RL_103 : Cond.methodLink RL 103 yX10_rounded ∈ gw ∧ Cond.instanceMethod yX10_rounded ∈ gw ∧ Cond.selects RX10 yX10_rounded yX10_rounded ∈ gw ∧ Cond.initialized RX10 ∈ gw ∧ Cond.code yX10_rounded cX10_rounded 1 (some .int) ∈ gw := ⟨gw_at 926 (by decide +kernel) rfl, wx_927, wx_928, wx_115, wx_929⟩
theorem wx_1801 : Cond.instanceMethod yX11_rounded ∈ gw := gw_at 1801 (by decide +kernel) rfl
theorem wx_1802 : Cond.selects RX11 yX11_rounded yX11_rounded ∈ gw := gw_at 1802 (by decide +kernel) rfl
theorem wx_1803 : Cond.code yX11_rounded cX11_rounded 1 (some .int) ∈ gw := gw_at 1803 (by decide +kernel) rfl
theorem wm_RL_106 : Cond.methodLink RL 106 yX11_rounded ∈ gw ∧ Cond.instanceMethod yX11_rounded ∈ gw ∧ Cond.selects RX11 yX11_rounded yX11_rounded ∈ gw ∧ Cond.initialized RX11 ∈ gw ∧ Cond.code yX11_rounded cX11_rounded 1 (some .int) ∈ gw := ⟨gw_at 1800 (by decide +kernel) rfl, wx_1801, wx_1802, wx_125, wx_1803⟩
theorem wx_931 : Cond.instanceMethod yX10_beds ∈ gw := gw_at 931 (by decide +kernel) rfl
theorem wx_932 : Cond.selects RX10 yX10_beds yX10_beds ∈ gw := gw_at 932 (by decide +kernel) rfl
theorem wx_933 : Cond.code yX10_beds cX10_beds 1 (some .int) ∈ gw := gw_at 933 (by decide +kernel) rfl
theorem wm_RL_107 : Cond.methodLink RL 107 yX10_beds ∈ gw ∧ Cond.instanceMethod yX10_beds ∈ gw ∧ Cond.selects RX10 yX10_beds yX10_beds ∈ gw ∧ Cond.initialized RX10 ∈ gw ∧ Cond.code yX10_beds cX10_beds 1 (some .int) ∈ gw := ⟨gw_at 930 (by decide +kernel) rfl, wx_931, wx_932, wx_115, wx_933⟩
theorem wx_1805 : Cond.instanceMethod yX11_beds ∈ gw := gw_at 1805 (by decide +kernel) rfl
theorem wx_1806 : Cond.selects RX11 yX11_beds yX11_beds ∈ gw := gw_at 1806 (by decide +kernel) rfl
theorem wx_1807 : Cond.code yX11_beds cX11_beds 7 (some .int) ∈ gw := gw_at 1807 (by decide +kernel) rfl
theorem wm_RL_110 : Cond.methodLink RL 110 yX11_beds ∈ gw ∧ Cond.instanceMethod yX11_beds ∈ gw ∧ Cond.selects RX11 yX11_beds yX11_beds ∈ gw ∧ Cond.initialized RX11 ∈ gw ∧ Cond.code yX11_beds cX11_beds 7 (some .int) ∈ gw := ⟨gw_at 1804 (by decide +kernel) rfl, wx_1805, wx_1806, wx_125, wx_1807⟩
theorem wx_968 : Cond.instanceMethod yX10_bedded ∈ gw := gw_at 968 (by decide +kernel) rfl
theorem wx_969 : Cond.selects RX10 yX10_bedded yX10_bedded ∈ gw := gw_at 969 (by decide +kernel) rfl
theorem wx_970 : Cond.code yX10_bedded cX10_bedded 1 (some .int) ∈ gw := gw_at 970 (by decide +kernel) rfl
theorem wm_RL_111 : Cond.methodLink RL 111 yX10_bedded ∈ gw ∧ Cond.instanceMethod yX10_bedded ∈ gw ∧ Cond.selects RX10 yX10_bedded yX10_bedded ∈ gw ∧ Cond.initialized RX10 ∈ gw ∧ Cond.code yX10_bedded cX10_bedded 1 (some .int) ∈ gw := ⟨gw_at 967 (by decide +kernel) rfl, wx_968, wx_969, wx_115, wx_970⟩
theorem wx_1817 : Cond.instanceMethod yX11_bedded ∈ gw := gw_at 1817 (by decide +kernel) rfl
theorem wx_1818 : Cond.selects RX11 yX11_bedded yX11_bedded ∈ gw := gw_at 1818 (by decide +kernel) rfl
theorem wx_1819 : Cond.code yX11_bedded cX11_bedded 1 (some .int) ∈ gw := gw_at 1819 (by decide +kernel) rfl
theorem wm_RL_114 : Cond.methodLink RL 114 yX11_bedded ∈ gw ∧ Cond.instanceMethod yX11_bedded ∈ gw ∧ Cond.selects RX11 yX11_bedded yX11_bedded ∈ gw ∧ Cond.initialized RX11 ∈ gw ∧ Cond.code yX11_bedded cX11_bedded 1 (some .int) ∈ gw := ⟨gw_at 1816 (by decide +kernel) rfl, wx_1817, wx_1818, wx_125, wx_1819⟩
theorem wx_972 : Cond.instanceMethod yX10_fits ∈ gw := gw_at 972 (by decide +kernel) rfl
theorem wx_973 : Cond.selects RX10 yX10_fits yX10_fits ∈ gw := gw_at 973 (by decide +kernel) rfl
theorem wx_974 : Cond.code yX10_fits cX10_fits 4 (some .int) ∈ gw := gw_at 974 (by decide +kernel) rfl
theorem wm_RL_115 : Cond.methodLink RL 115 yX10_fits ∈ gw ∧ Cond.instanceMethod yX10_fits ∈ gw ∧ Cond.selects RX10 yX10_fits yX10_fits ∈ gw ∧ Cond.initialized RX10 ∈ gw ∧ Cond.code yX10_fits cX10_fits 4 (some .int) ∈ gw := ⟨gw_at 971 (by decide +kernel) rfl, wx_972, wx_973, wx_115, wx_974⟩
theorem wx_1821 : Cond.instanceMethod yX11_fits ∈ gw := gw_at 1821 (by decide +kernel) rfl
theorem wx_1822 : Cond.selects RX11 yX11_fits yX11_fits ∈ gw := gw_at 1822 (by decide +kernel) rfl
theorem wx_1823 : Cond.code yX11_fits cX11_fits 3 (some .int) ∈ gw := gw_at 1823 (by decide +kernel) rfl
theorem wm_RL_118 : Cond.methodLink RL 118 yX11_fits ∈ gw ∧ Cond.instanceMethod yX11_fits ∈ gw ∧ Cond.selects RX11 yX11_fits yX11_fits ∈ gw ∧ Cond.initialized RX11 ∈ gw ∧ Cond.code yX11_fits cX11_fits 3 (some .int) ∈ gw := ⟨gw_at 1820 (by decide +kernel) rfl, wx_1821, wx_1822, wx_125, wx_1823⟩
theorem wx_989 : Cond.instanceMethod yX10_ask ∈ gw := gw_at 989 (by decide +kernel) rfl
theorem wx_990 : Cond.selects RX10 yX10_ask yX10_ask ∈ gw := gw_at 990 (by decide +kernel) rfl
theorem wx_991 : Cond.code yX10_ask cX10_ask 1 (some .int) ∈ gw := gw_at 991 (by decide +kernel) rfl
theorem wm_RL_119 : Cond.methodLink RL 119 yX10_ask ∈ gw ∧ Cond.instanceMethod yX10_ask ∈ gw ∧ Cond.selects RX10 yX10_ask yX10_ask ∈ gw ∧ Cond.initialized RX10 ∈ gw ∧ Cond.code yX10_ask cX10_ask 1 (some .int) ∈ gw := ⟨gw_at 988 (by decide +kernel) rfl, wx_989, wx_990, wx_115, wx_991⟩
theorem wx_1840 : Cond.instanceMethod yX11_ask ∈ gw := gw_at 1840 (by decide +kernel) rfl
theorem wx_1841 : Cond.selects RX11 yX11_ask yX11_ask ∈ gw := gw_at 1841 (by decide +kernel) rfl
theorem wx_1842 : Cond.code yX11_ask cX11_ask 1 (some .int) ∈ gw := gw_at 1842 (by decide +kernel) rfl
theorem wm_RL_122 : Cond.methodLink RL 122 yX11_ask ∈ gw ∧ Cond.instanceMethod yX11_ask ∈ gw ∧ Cond.selects RX11 yX11_ask yX11_ask ∈ gw ∧ Cond.initialized RX11 ∈ gw ∧ Cond.code yX11_ask cX11_ask 1 (some .int) ∈ gw := ⟨gw_at 1839 (by decide +kernel) rfl, wx_1840, wx_1841, wx_125, wx_1842⟩
theorem wx_993 : Cond.instanceMethod yX10_like ∈ gw := gw_at 993 (by decide +kernel) rfl
theorem wx_994 : Cond.selects RX10 yX10_like yX10_like ∈ gw := gw_at 994 (by decide +kernel) rfl
theorem wx_995 : Cond.code yX10_like cX10_like 4 (some .int) ∈ gw := gw_at 995 (by decide +kernel) rfl
theorem wm_RL_123 : Cond.methodLink RL 123 yX10_like ∈ gw ∧ Cond.instanceMethod yX10_like ∈ gw ∧ Cond.selects RX10 yX10_like yX10_like ∈ gw ∧ Cond.initialized RX10 ∈ gw ∧ Cond.code yX10_like cX10_like 4 (some .int) ∈ gw := ⟨gw_at 992 (by decide +kernel) rfl, wx_993, wx_994, wx_115, wx_995⟩
theorem wx_1844 : Cond.instanceMethod yX11_like ∈ gw := gw_at 1844 (by decide +kernel) rfl
theorem wx_1845 : Cond.selects RX11 yX11_like yX11_like ∈ gw := gw_at 1845 (by decide +kernel) rfl
theorem wx_1846 : Cond.code yX11_like cX11_like 4 (some .int) ∈ gw := gw_at 1846 (by decide +kernel) rfl
theorem wm_RL_126 : Cond.methodLink RL 126 yX11_like ∈ gw ∧ Cond.instanceMethod yX11_like ∈ gw ∧ Cond.selects RX11 yX11_like yX11_like ∈ gw ∧ Cond.initialized RX11 ∈ gw ∧ Cond.code yX11_like cX11_like 4 (some .int) ∈ gw := ⟨gw_at 1843 (by decide +kernel) rfl, wx_1844, wx_1845, wx_125, wx_1846⟩
theorem wx_1001 : Cond.instanceMethod yX10_hardest ∈ gw := gw_at 1001 (by decide +kernel) rfl
theorem wx_1002 : Cond.selects RX10 yX10_hardest yX10_hardest ∈ gw := gw_at 1002 (by decide +kernel) rfl
theorem wx_1003 : Cond.code yX10_hardest cX10_hardest 5 (some .int) ∈ gw := gw_at 1003 (by decide +kernel) rfl
theorem wm_RL_127 : Cond.methodLink RL 127 yX10_hardest ∈ gw ∧ Cond.instanceMethod yX10_hardest ∈ gw ∧ Cond.selects RX10 yX10_hardest yX10_hardest ∈ gw ∧ Cond.initialized RX10 ∈ gw ∧ Cond.code yX10_hardest cX10_hardest 5 (some .int) ∈ gw := ⟨gw_at 1000 (by decide +kernel) rfl, wx_1001, wx_1002, wx_115, wx_1003⟩
theorem wx_1852 : Cond.instanceMethod yX11_hardest ∈ gw := gw_at 1852 (by decide +kernel) rfl
theorem wx_1853 : Cond.selects RX11 yX11_hardest yX11_hardest ∈ gw := gw_at 1853 (by decide +kernel) rfl
theorem wx_1854 : Cond.code yX11_hardest cX11_hardest 3 (some .int) ∈ gw := gw_at 1854 (by decide +kernel) rfl
theorem wm_RL_130 : Cond.methodLink RL 130 yX11_hardest ∈ gw ∧ Cond.instanceMethod yX11_hardest ∈ gw ∧ Cond.selects RX11 yX11_hardest yX11_hardest ∈ gw ∧ Cond.initialized RX11 ∈ gw ∧ Cond.code yX11_hardest cX11_hardest 3 (some .int) ∈ gw := ⟨gw_at 1851 (by decide +kernel) rfl, wx_1852, wx_1853, wx_125, wx_1854⟩
theorem wx_1856 : Cond.instanceMethod yX11_mean ∈ gw := gw_at 1856 (by decide +kernel) rfl
theorem wx_1857 : Cond.selects RX11 yX11_mean yX11_mean ∈ gw := gw_at 1857 (by decide +kernel) rfl
theorem wx_1858 : Cond.code yX11_mean cX11_mean 6 (some .int) ∈ gw := gw_at 1858 (by decide +kernel) rfl
theorem wm_RL_133 : Cond.methodLink RL 133 yX11_mean ∈ gw ∧ Cond.instanceMethod yX11_mean ∈ gw ∧ Cond.selects RX11 yX11_mean yX11_mean ∈ gw ∧ Cond.initialized RX11 ∈ gw ∧ Cond.code yX11_mean cX11_mean 6 (some .int) ∈ gw := ⟨gw_at 1855 (by decide +kernel) rfl, wx_1856, wx_1857, wx_125, wx_1858⟩
theorem wx_1006 : Cond.instanceMethod yX10_tag ∈ gw := gw_at 1006 (by decide +kernel) rfl
theorem wx_1007 : Cond.selects RX10 yX10_tag yX10_tag ∈ gw := gw_at 1007 (by decide +kernel) rfl
theorem wx_1008 : Cond.code yX10_tag cX10_tag 2 (some .int) ∈ gw := gw_at 1008 (by decide +kernel) rfl
theorem wm_RL_134 : Cond.methodLink RL 134 yX10_tag ∈ gw ∧ Cond.instanceMethod yX10_tag ∈ gw ∧ Cond.selects RX10 yX10_tag yX10_tag ∈ gw ∧ Cond.initialized RX10 ∈ gw ∧ Cond.code yX10_tag cX10_tag 2 (some .int) ∈ gw := ⟨gw_at 1005 (by decide +kernel) rfl, wx_1006, wx_1007, wx_115, wx_1008⟩
theorem wx_1860 : Cond.instanceMethod yX11_tag ∈ gw := gw_at 1860 (by decide +kernel) rfl
theorem wx_1861 : Cond.selects RX11 yX11_tag yX11_tag ∈ gw := gw_at 1861 (by decide +kernel) rfl
theorem wx_1862 : Cond.code yX11_tag cX11_tag 5 (some .int) ∈ gw := gw_at 1862 (by decide +kernel) rfl
theorem wm_RL_137 : Cond.methodLink RL 137 yX11_tag ∈ gw ∧ Cond.instanceMethod yX11_tag ∈ gw ∧ Cond.selects RX11 yX11_tag yX11_tag ∈ gw ∧ Cond.initialized RX11 ∈ gw ∧ Cond.code yX11_tag cX11_tag 5 (some .int) ∈ gw := ⟨gw_at 1859 (by decide +kernel) rfl, wx_1860, wx_1861, wx_125, wx_1862⟩
theorem wx_1030 : Cond.instanceMethod yX10_byteAt ∈ gw := gw_at 1030 (by decide +kernel) rfl
theorem wx_1031 : Cond.selects RX10 yX10_byteAt yX10_byteAt ∈ gw := gw_at 1031 (by decide +kernel) rfl
theorem wx_1032 : Cond.code yX10_byteAt cX10_byteAt 2 (some .int) ∈ gw := gw_at 1032 (by decide +kernel) rfl
theorem wm_RL_138 : Cond.methodLink RL 138 yX10_byteAt ∈ gw ∧ Cond.instanceMethod yX10_byteAt ∈ gw ∧ Cond.selects RX10 yX10_byteAt yX10_byteAt ∈ gw ∧ Cond.initialized RX10 ∈ gw ∧ Cond.code yX10_byteAt cX10_byteAt 2 (some .int) ∈ gw := ⟨gw_at 1029 (by decide +kernel) rfl, wx_1030, wx_1031, wx_115, wx_1032⟩
theorem wx_1877 : Cond.instanceMethod yX11_byteAt ∈ gw := gw_at 1877 (by decide +kernel) rfl
theorem wx_1878 : Cond.selects RX11 yX11_byteAt yX11_byteAt ∈ gw := gw_at 1878 (by decide +kernel) rfl
theorem wx_1879 : Cond.code yX11_byteAt cX11_byteAt 2 (some .int) ∈ gw := gw_at 1879 (by decide +kernel) rfl
theorem wm_RL_141 : Cond.methodLink RL 141 yX11_byteAt ∈ gw ∧ Cond.instanceMethod yX11_byteAt ∈ gw ∧ Cond.selects RX11 yX11_byteAt yX11_byteAt ∈ gw ∧ Cond.initialized RX11 ∈ gw ∧ Cond.code yX11_byteAt cX11_byteAt 2 (some .int) ∈ gw := ⟨gw_at 1876 (by decide +kernel) rfl, wx_1877, wx_1878, wx_125, wx_1879⟩
theorem wx_1034 : Cond.instanceMethod yX10_drawn ∈ gw := gw_at 1034 (by decide +kernel) rfl
theorem wx_1035 : Cond.selects RX10 yX10_drawn yX10_drawn ∈ gw := gw_at 1035 (by decide +kernel) rfl
theorem wx_1036 : Cond.code yX10_drawn cX10_drawn 4 (some .int) ∈ gw := gw_at 1036 (by decide +kernel) rfl
theorem wm_RL_142 : Cond.methodLink RL 142 yX10_drawn ∈ gw ∧ Cond.instanceMethod yX10_drawn ∈ gw ∧ Cond.selects RX10 yX10_drawn yX10_drawn ∈ gw ∧ Cond.initialized RX10 ∈ gw ∧ Cond.code yX10_drawn cX10_drawn 4 (some .int) ∈ gw := ⟨gw_at 1033 (by decide +kernel) rfl, wx_1034, wx_1035, wx_115, wx_1036⟩
theorem wx_1881 : Cond.instanceMethod yX11_drawn ∈ gw := gw_at 1881 (by decide +kernel) rfl
theorem wx_1882 : Cond.selects RX11 yX11_drawn yX11_drawn ∈ gw := gw_at 1882 (by decide +kernel) rfl
theorem wx_1883 : Cond.code yX11_drawn cX11_drawn 3 (some .int) ∈ gw := gw_at 1883 (by decide +kernel) rfl
theorem wm_RL_145 : Cond.methodLink RL 145 yX11_drawn ∈ gw ∧ Cond.instanceMethod yX11_drawn ∈ gw ∧ Cond.selects RX11 yX11_drawn yX11_drawn ∈ gw ∧ Cond.initialized RX11 ∈ gw ∧ Cond.code yX11_drawn cX11_drawn 3 (some .int) ∈ gw := ⟨gw_at 1880 (by decide +kernel) rfl, wx_1881, wx_1882, wx_125, wx_1883⟩
theorem wx_1055 : Cond.instanceMethod yX10_odds ∈ gw := gw_at 1055 (by decide +kernel) rfl
theorem wx_1056 : Cond.selects RX10 yX10_odds yX10_odds ∈ gw := gw_at 1056 (by decide +kernel) rfl
theorem wx_1057 : Cond.code yX10_odds cX10_odds 6 (some .int) ∈ gw := gw_at 1057 (by decide +kernel) rfl
theorem wm_RL_146 : Cond.methodLink RL 146 yX10_odds ∈ gw ∧ Cond.instanceMethod yX10_odds ∈ gw ∧ Cond.selects RX10 yX10_odds yX10_odds ∈ gw ∧ Cond.initialized RX10 ∈ gw ∧ Cond.code yX10_odds cX10_odds 6 (some .int) ∈ gw := ⟨gw_at 1054 (by decide +kernel) rfl, wx_1055, wx_1056, wx_115, wx_1057⟩
theorem wx_1898 : Cond.instanceMethod yX11_odds ∈ gw := gw_at 1898 (by decide +kernel) rfl
theorem wx_1899 : Cond.selects RX11 yX11_odds yX11_odds ∈ gw := gw_at 1899 (by decide +kernel) rfl
theorem wx_1900 : Cond.code yX11_odds cX11_odds 6 (some .int) ∈ gw := gw_at 1900 (by decide +kernel) rfl
theorem wm_RL_150 : Cond.methodLink RL 150 yX11_odds ∈ gw ∧ Cond.instanceMethod yX11_odds ∈ gw ∧ Cond.selects RX11 yX11_odds yX11_odds ∈ gw ∧ Cond.initialized RX11 ∈ gw ∧ Cond.code yX11_odds cX11_odds 6 (some .int) ∈ gw := ⟨gw_at 1897 (by decide +kernel) rfl, wx_1898, wx_1899, wx_125, wx_1900⟩
theorem wx_1060 : Cond.instanceMethod yX10_book ∈ gw := gw_at 1060 (by decide +kernel) rfl
theorem wx_1061 : Cond.selects RX10 yX10_book yX10_book ∈ gw := gw_at 1061 (by decide +kernel) rfl
theorem wx_1062 : Cond.code yX10_book cX10_book 2 (some .int) ∈ gw := gw_at 1062 (by decide +kernel) rfl
theorem wm_RL_151 : Cond.methodLink RL 151 yX10_book ∈ gw ∧ Cond.instanceMethod yX10_book ∈ gw ∧ Cond.selects RX10 yX10_book yX10_book ∈ gw ∧ Cond.initialized RX10 ∈ gw ∧ Cond.code yX10_book cX10_book 2 (some .int) ∈ gw := ⟨gw_at 1059 (by decide +kernel) rfl, wx_1060, wx_1061, wx_115, wx_1062⟩
theorem wx_1902 : Cond.instanceMethod yX11_book ∈ gw := gw_at 1902 (by decide +kernel) rfl
theorem wx_1903 : Cond.selects RX11 yX11_book yX11_book ∈ gw := gw_at 1903 (by decide +kernel) rfl
theorem wx_1904 : Cond.code yX11_book cX11_book 4 (some .int) ∈ gw := gw_at 1904 (by decide +kernel) rfl
theorem wm_RL_154 : Cond.methodLink RL 154 yX11_book ∈ gw ∧ Cond.instanceMethod yX11_book ∈ gw ∧ Cond.selects RX11 yX11_book yX11_book ∈ gw ∧ Cond.initialized RX11 ∈ gw ∧ Cond.code yX11_book cX11_book 4 (some .int) ∈ gw := ⟨gw_at 1901 (by decide +kernel) rfl, wx_1902, wx_1903, wx_125, wx_1904⟩
theorem wx_1135 : Cond.instanceMethod yX10_told ∈ gw := gw_at 1135 (by decide +kernel) rfl
theorem wx_1136 : Cond.selects RX10 yX10_told yX10_told ∈ gw := gw_at 1136 (by decide +kernel) rfl
theorem wx_1137 : Cond.code yX10_told cX10_told 2 (some .int) ∈ gw := gw_at 1137 (by decide +kernel) rfl
theorem wm_RL_155 : Cond.methodLink RL 155 yX10_told ∈ gw ∧ Cond.instanceMethod yX10_told ∈ gw ∧ Cond.selects RX10 yX10_told yX10_told ∈ gw ∧ Cond.initialized RX10 ∈ gw ∧ Cond.code yX10_told cX10_told 2 (some .int) ∈ gw := ⟨gw_at 1134 (by decide +kernel) rfl, wx_1135, wx_1136, wx_115, wx_1137⟩
theorem wx_1914 : Cond.instanceMethod yX11_told ∈ gw := gw_at 1914 (by decide +kernel) rfl
theorem wx_1915 : Cond.selects RX11 yX11_told yX11_told ∈ gw := gw_at 1915 (by decide +kernel) rfl
theorem wx_1916 : Cond.code yX11_told cX11_told 2 (some .int) ∈ gw := gw_at 1916 (by decide +kernel) rfl
theorem wm_RL_158 : Cond.methodLink RL 158 yX11_told ∈ gw ∧ Cond.instanceMethod yX11_told ∈ gw ∧ Cond.selects RX11 yX11_told yX11_told ∈ gw ∧ Cond.initialized RX11 ∈ gw ∧ Cond.code yX11_told cX11_told 2 (some .int) ∈ gw := ⟨gw_at 1913 (by decide +kernel) rfl, wx_1914, wx_1915, wx_125, wx_1916⟩
theorem wx_1139 : Cond.instanceMethod yX10_sentence ∈ gw := gw_at 1139 (by decide +kernel) rfl
theorem wx_1140 : Cond.selects RX10 yX10_sentence yX10_sentence ∈ gw := gw_at 1140 (by decide +kernel) rfl
theorem wx_1141 : Cond.code yX10_sentence cX10_sentence 1 (some .int) ∈ gw := gw_at 1141 (by decide +kernel) rfl
theorem wm_RL_159 : Cond.methodLink RL 159 yX10_sentence ∈ gw ∧ Cond.instanceMethod yX10_sentence ∈ gw ∧ Cond.selects RX10 yX10_sentence yX10_sentence ∈ gw ∧ Cond.initialized RX10 ∈ gw ∧ Cond.code yX10_sentence cX10_sentence 1 (some .int) ∈ gw := ⟨gw_at 1138 (by decide +kernel) rfl, wx_1139, wx_1140, wx_115, wx_1141⟩
theorem wx_1918 : Cond.instanceMethod yX11_sentence ∈ gw := gw_at 1918 (by decide +kernel) rfl
theorem wx_1919 : Cond.selects RX11 yX11_sentence yX11_sentence ∈ gw := gw_at 1919 (by decide +kernel) rfl
theorem wx_1920 : Cond.code yX11_sentence cX11_sentence 3 (some .int) ∈ gw := gw_at 1920 (by decide +kernel) rfl
theorem wm_RL_162 : Cond.methodLink RL 162 yX11_sentence ∈ gw ∧ Cond.instanceMethod yX11_sentence ∈ gw ∧ Cond.selects RX11 yX11_sentence yX11_sentence ∈ gw ∧ Cond.initialized RX11 ∈ gw ∧ Cond.code yX11_sentence cX11_sentence 3 (some .int) ∈ gw := ⟨gw_at 1917 (by decide +kernel) rfl, wx_1918, wx_1919, wx_125, wx_1920⟩
theorem wx_1203 : Cond.instanceMethod yX10_said ∈ gw := gw_at 1203 (by decide +kernel) rfl
theorem wx_1204 : Cond.selects RX10 yX10_said yX10_said ∈ gw := gw_at 1204 (by decide +kernel) rfl
theorem wx_1205 : Cond.code yX10_said cX10_said 4 (some .int) ∈ gw := gw_at 1205 (by decide +kernel) rfl
theorem wm_RL_163 : Cond.methodLink RL 163 yX10_said ∈ gw ∧ Cond.instanceMethod yX10_said ∈ gw ∧ Cond.selects RX10 yX10_said yX10_said ∈ gw ∧ Cond.initialized RX10 ∈ gw ∧ Cond.code yX10_said cX10_said 4 (some .int) ∈ gw := ⟨gw_at 1202 (by decide +kernel) rfl, wx_1203, wx_1204, wx_115, wx_1205⟩
theorem wx_1946 : Cond.instanceMethod yX11_said ∈ gw := gw_at 1946 (by decide +kernel) rfl
theorem wx_1947 : Cond.selects RX11 yX11_said yX11_said ∈ gw := gw_at 1947 (by decide +kernel) rfl
theorem wx_1948 : Cond.code yX11_said cX11_said 4 (some .int) ∈ gw := gw_at 1948 (by decide +kernel) rfl
theorem wm_RL_166 : Cond.methodLink RL 166 yX11_said ∈ gw ∧ Cond.instanceMethod yX11_said ∈ gw ∧ Cond.selects RX11 yX11_said yX11_said ∈ gw ∧ Cond.initialized RX11 ∈ gw ∧ Cond.code yX11_said cX11_said 4 (some .int) ∈ gw := ⟨gw_at 1945 (by decide +kernel) rfl, wx_1946, wx_1947, wx_125, wx_1948⟩
theorem wx_1225 : Cond.instanceMethod yX10_image ∈ gw := gw_at 1225 (by decide +kernel) rfl
theorem wx_1226 : Cond.selects RX10 yX10_image yX10_image ∈ gw := gw_at 1226 (by decide +kernel) rfl
theorem wx_1227 : Cond.code yX10_image cX10_image 2 (some .boolean) ∈ gw := gw_at 1227 (by decide +kernel) rfl
theorem wm_RL_167 : Cond.methodLink RL 167 yX10_image ∈ gw ∧ Cond.instanceMethod yX10_image ∈ gw ∧ Cond.selects RX10 yX10_image yX10_image ∈ gw ∧ Cond.initialized RX10 ∈ gw ∧ Cond.code yX10_image cX10_image 2 (some .boolean) ∈ gw := ⟨gw_at 1224 (by decide +kernel) rfl, wx_1225, wx_1226, wx_115, wx_1227⟩
theorem wx_1958 : Cond.instanceMethod yX11_image ∈ gw := gw_at 1958 (by decide +kernel) rfl
theorem wx_1959 : Cond.selects RX11 yX11_image yX11_image ∈ gw := gw_at 1959 (by decide +kernel) rfl
theorem wx_1960 : Cond.code yX11_image cX11_image 3 (some .boolean) ∈ gw := gw_at 1960 (by decide +kernel) rfl
theorem wm_RL_170 : Cond.methodLink RL 170 yX11_image ∈ gw ∧ Cond.instanceMethod yX11_image ∈ gw ∧ Cond.selects RX11 yX11_image yX11_image ∈ gw ∧ Cond.initialized RX11 ∈ gw ∧ Cond.code yX11_image cX11_image 3 (some .boolean) ∈ gw := ⟨gw_at 1957 (by decide +kernel) rfl, wx_1958, wx_1959, wx_125, wx_1960⟩
theorem wx_1236 : Cond.instanceMethod yX10_restore ∈ gw := gw_at 1236 (by decide +kernel) rfl
theorem wx_1237 : Cond.selects RX10 yX10_restore yX10_restore ∈ gw := gw_at 1237 (by decide +kernel) rfl
theorem wx_1238 : Cond.code yX10_restore cX10_restore 2 (some .boolean) ∈ gw := gw_at 1238 (by decide +kernel) rfl
theorem wm_RL_171 : Cond.methodLink RL 171 yX10_restore ∈ gw ∧ Cond.instanceMethod yX10_restore ∈ gw ∧ Cond.selects RX10 yX10_restore yX10_restore ∈ gw ∧ Cond.initialized RX10 ∈ gw ∧ Cond.code yX10_restore cX10_restore 2 (some .boolean) ∈ gw := ⟨gw_at 1235 (by decide +kernel) rfl, wx_1236, wx_1237, wx_115, wx_1238⟩
theorem wx_1962 : Cond.instanceMethod yX11_restore ∈ gw := gw_at 1962 (by decide +kernel) rfl
theorem wx_1963 : Cond.selects RX11 yX11_restore yX11_restore ∈ gw := gw_at 1963 (by decide +kernel) rfl
theorem wx_1964 : Cond.code yX11_restore cX11_restore 3 (some .boolean) ∈ gw := gw_at 1964 (by decide +kernel) rfl
theorem wm_RL_174 : Cond.methodLink RL 174 yX11_restore ∈ gw ∧ Cond.instanceMethod yX11_restore ∈ gw ∧ Cond.selects RX11 yX11_restore yX11_restore ∈ gw ∧ Cond.initialized RX11 ∈ gw ∧ Cond.code yX11_restore cX11_restore 3 (some .boolean) ∈ gw := ⟨gw_at 1961 (by decide +kernel) rfl, wx_1962, wx_1963, wx_125, wx_1964⟩
theorem wx_1244 : Cond.instanceMethod yX10_count ∈ gw := gw_at 1244 (by decide +kernel) rfl
theorem wx_1245 : Cond.selects RX10 yX10_count yX10_count ∈ gw := gw_at 1245 (by decide +kernel) rfl
theorem wx_1246 : Cond.code yX10_count cX10_count 2 (some .int) ∈ gw := gw_at 1246 (by decide +kernel) rfl
theorem wm_RL_175 : Cond.methodLink RL 175 yX10_count ∈ gw ∧ Cond.instanceMethod yX10_count ∈ gw ∧ Cond.selects RX10 yX10_count yX10_count ∈ gw ∧ Cond.initialized RX10 ∈ gw ∧ Cond.code yX10_count cX10_count 2 (some .int) ∈ gw := ⟨gw_at 1243 (by decide +kernel) rfl, wx_1244, wx_1245, wx_115, wx_1246⟩
theorem wx_1966 : Cond.instanceMethod yX11_count ∈ gw := gw_at 1966 (by decide +kernel) rfl
theorem wx_1967 : Cond.selects RX11 yX11_count yX11_count ∈ gw := gw_at 1967 (by decide +kernel) rfl
theorem wx_1968 : Cond.code yX11_count cX11_count 2 (some .int) ∈ gw := gw_at 1968 (by decide +kernel) rfl
theorem wm_RL_178 : Cond.methodLink RL 178 yX11_count ∈ gw ∧ Cond.instanceMethod yX11_count ∈ gw ∧ Cond.selects RX11 yX11_count yX11_count ∈ gw ∧ Cond.initialized RX11 ∈ gw ∧ Cond.code yX11_count cX11_count 2 (some .int) ∈ gw := ⟨gw_at 1965 (by decide +kernel) rfl, wx_1966, wx_1967, wx_125, wx_1968⟩
theorem md_X10_ask : yX10_ask.cls = RX10 ∧ yX10_ask.cls ≠ "java/lang/invoke/MethodHandle" ∧ yX10_ask.cls ≠ "java/lang/invoke/VarHandle" ∧ (parseMethodDescriptor yX10_ask.desc).map (fun d => d.parameters.length) = some 0 := by decide +kernel
theorem md_X10_bed : yX10_bed.cls = RX10 ∧ yX10_bed.cls ≠ "java/lang/invoke/MethodHandle" ∧ yX10_bed.cls ≠ "java/lang/invoke/VarHandle" ∧ (parseMethodDescriptor yX10_bed.desc).map (fun d => d.parameters.length) = some 2 := by decide +kernel
theorem md_X10_bedded : yX10_bedded.cls = RX10 ∧ yX10_bedded.cls ≠ "java/lang/invoke/MethodHandle" ∧ yX10_bedded.cls ≠ "java/lang/invoke/VarHandle" ∧ (parseMethodDescriptor yX10_bedded.desc).map (fun d => d.parameters.length) = some 0 := by decide +kernel
theorem md_X10_beds : yX10_beds.cls = RX10 ∧ yX10_beds.cls ≠ "java/lang/invoke/MethodHandle" ∧ yX10_beds.cls ≠ "java/lang/invoke/VarHandle" ∧ (parseMethodDescriptor yX10_beds.desc).map (fun d => d.parameters.length) = some 0 := by decide +kernel
theorem md_X10_book : yX10_book.cls = RX10 ∧ yX10_book.cls ≠ "java/lang/invoke/MethodHandle" ∧ yX10_book.cls ≠ "java/lang/invoke/VarHandle" ∧ (parseMethodDescriptor yX10_book.desc).map (fun d => d.parameters.length) = some 1 := by decide +kernel
theorem md_X10_byteAt : yX10_byteAt.cls = RX10 ∧ yX10_byteAt.cls ≠ "java/lang/invoke/MethodHandle" ∧ yX10_byteAt.cls ≠ "java/lang/invoke/VarHandle" ∧ (parseMethodDescriptor yX10_byteAt.desc).map (fun d => d.parameters.length) = some 1 := by decide +kernel
theorem md_X10_count : yX10_count.cls = RX10 ∧ yX10_count.cls ≠ "java/lang/invoke/MethodHandle" ∧ yX10_count.cls ≠ "java/lang/invoke/VarHandle" ∧ (parseMethodDescriptor yX10_count.desc).map (fun d => d.parameters.length) = some 1 := by decide +kernel
theorem md_X10_cut : yX10_cut.cls = RX10 ∧ yX10_cut.cls ≠ "java/lang/invoke/MethodHandle" ∧ yX10_cut.cls ≠ "java/lang/invoke/VarHandle" ∧ (parseMethodDescriptor yX10_cut.desc).map (fun d => d.parameters.length) = some 1 := by decide +kernel
theorem md_X10_days : yX10_days.cls = RX10 ∧ yX10_days.cls ≠ "java/lang/invoke/MethodHandle" ∧ yX10_days.cls ≠ "java/lang/invoke/VarHandle" ∧ (parseMethodDescriptor yX10_days.desc).map (fun d => d.parameters.length) = some 1 := by decide +kernel
theorem md_X10_drawn : yX10_drawn.cls = RX10 ∧ yX10_drawn.cls ≠ "java/lang/invoke/MethodHandle" ∧ yX10_drawn.cls ≠ "java/lang/invoke/VarHandle" ∧ (parseMethodDescriptor yX10_drawn.desc).map (fun d => d.parameters.length) = some 2 := by decide +kernel
theorem md_X10_ease : yX10_ease.cls = RX10 ∧ yX10_ease.cls ≠ "java/lang/invoke/MethodHandle" ∧ yX10_ease.cls ≠ "java/lang/invoke/VarHandle" ∧ (parseMethodDescriptor yX10_ease.desc).map (fun d => d.parameters.length) = some 1 := by decide +kernel
theorem md_X10_end : yX10_end.cls = RX10 ∧ yX10_end.cls ≠ "java/lang/invoke/MethodHandle" ∧ yX10_end.cls ≠ "java/lang/invoke/VarHandle" ∧ (parseMethodDescriptor yX10_end.desc).map (fun d => d.parameters.length) = some 1 := by decide +kernel
theorem md_X10_fault : yX10_fault.cls = RX10 ∧ yX10_fault.cls ≠ "java/lang/invoke/MethodHandle" ∧ yX10_fault.cls ≠ "java/lang/invoke/VarHandle" ∧ (parseMethodDescriptor yX10_fault.desc).map (fun d => d.parameters.length) = some 0 := by decide +kernel
theorem md_X10_feed : yX10_feed.cls = RX10 ∧ yX10_feed.cls ≠ "java/lang/invoke/MethodHandle" ∧ yX10_feed.cls ≠ "java/lang/invoke/VarHandle" ∧ (parseMethodDescriptor yX10_feed.desc).map (fun d => d.parameters.length) = some 5 := by decide +kernel
theorem md_X10_fits : yX10_fits.cls = RX10 ∧ yX10_fits.cls ≠ "java/lang/invoke/MethodHandle" ∧ yX10_fits.cls ≠ "java/lang/invoke/VarHandle" ∧ (parseMethodDescriptor yX10_fits.desc).map (fun d => d.parameters.length) = some 0 := by decide +kernel
theorem md_X10_hardest : yX10_hardest.cls = RX10 ∧ yX10_hardest.cls ≠ "java/lang/invoke/MethodHandle" ∧ yX10_hardest.cls ≠ "java/lang/invoke/VarHandle" ∧ (parseMethodDescriptor yX10_hardest.desc).map (fun d => d.parameters.length) = some 0 := by decide +kernel
theorem md_X10_image : yX10_image.cls = RX10 ∧ yX10_image.cls ≠ "java/lang/invoke/MethodHandle" ∧ yX10_image.cls ≠ "java/lang/invoke/VarHandle" ∧ (parseMethodDescriptor yX10_image.desc).map (fun d => d.parameters.length) = some 1 := by decide +kernel
theorem md_X10_layer : yX10_layer.cls = RX10 ∧ yX10_layer.cls ≠ "java/lang/invoke/MethodHandle" ∧ yX10_layer.cls ≠ "java/lang/invoke/VarHandle" ∧ (parseMethodDescriptor yX10_layer.desc).map (fun d => d.parameters.length) = some 2 := by decide +kernel
theorem md_X10_like : yX10_like.cls = RX10 ∧ yX10_like.cls ≠ "java/lang/invoke/MethodHandle" ∧ yX10_like.cls ≠ "java/lang/invoke/VarHandle" ∧ (parseMethodDescriptor yX10_like.desc).map (fun d => d.parameters.length) = some 1 := by decide +kernel
theorem md_X10_nests : yX10_nests.cls = RX10 ∧ yX10_nests.cls ≠ "java/lang/invoke/MethodHandle" ∧ yX10_nests.cls ≠ "java/lang/invoke/VarHandle" ∧ (parseMethodDescriptor yX10_nests.desc).map (fun d => d.parameters.length) = some 1 := by decide +kernel
theorem md_X10_now : yX10_now.cls = RX10 ∧ yX10_now.cls ≠ "java/lang/invoke/MethodHandle" ∧ yX10_now.cls ≠ "java/lang/invoke/VarHandle" ∧ (parseMethodDescriptor yX10_now.desc).map (fun d => d.parameters.length) = some 1 := by decide +kernel
theorem md_X10_odds : yX10_odds.cls = RX10 ∧ yX10_odds.cls ≠ "java/lang/invoke/MethodHandle" ∧ yX10_odds.cls ≠ "java/lang/invoke/VarHandle" ∧ (parseMethodDescriptor yX10_odds.desc).map (fun d => d.parameters.length) = some 3 := by decide +kernel
theorem md_X10_quarter : yX10_quarter.cls = RX10 ∧ yX10_quarter.cls ≠ "java/lang/invoke/MethodHandle" ∧ yX10_quarter.cls ≠ "java/lang/invoke/VarHandle" ∧ (parseMethodDescriptor yX10_quarter.desc).map (fun d => d.parameters.length) = some 0 := by decide +kernel
theorem md_X10_restore : yX10_restore.cls = RX10 ∧ yX10_restore.cls ≠ "java/lang/invoke/MethodHandle" ∧ yX10_restore.cls ≠ "java/lang/invoke/VarHandle" ∧ (parseMethodDescriptor yX10_restore.desc).map (fun d => d.parameters.length) = some 1 := by decide +kernel
theorem md_X10_round : yX10_round.cls = RX10 ∧ yX10_round.cls ≠ "java/lang/invoke/MethodHandle" ∧ yX10_round.cls ≠ "java/lang/invoke/VarHandle" ∧ (parseMethodDescriptor yX10_round.desc).map (fun d => d.parameters.length) = some 1 := by decide +kernel
theorem md_X10_rounded : yX10_rounded.cls = RX10 ∧ yX10_rounded.cls ≠ "java/lang/invoke/MethodHandle" ∧ yX10_rounded.cls ≠ "java/lang/invoke/VarHandle" ∧ (parseMethodDescriptor yX10_rounded.desc).map (fun d => d.parameters.length) = some 0 := by decide +kernel
theorem md_X10_said : yX10_said.cls = RX10 ∧ yX10_said.cls ≠ "java/lang/invoke/MethodHandle" ∧ yX10_said.cls ≠ "java/lang/invoke/VarHandle" ∧ (parseMethodDescriptor yX10_said.desc).map (fun d => d.parameters.length) = some 1 := by decide +kernel
theorem md_X10_sentence : yX10_sentence.cls = RX10 ∧ yX10_sentence.cls ≠ "java/lang/invoke/MethodHandle" ∧ yX10_sentence.cls ≠ "java/lang/invoke/VarHandle" ∧ (parseMethodDescriptor yX10_sentence.desc).map (fun d => d.parameters.length) = some 0 := by decide +kernel
theorem md_X10_snag : yX10_snag.cls = RX10 ∧ yX10_snag.cls ≠ "java/lang/invoke/MethodHandle" ∧ yX10_snag.cls ≠ "java/lang/invoke/VarHandle" ∧ (parseMethodDescriptor yX10_snag.desc).map (fun d => d.parameters.length) = some 2 := by decide +kernel
theorem md_X10_stroke : yX10_stroke.cls = RX10 ∧ yX10_stroke.cls ≠ "java/lang/invoke/MethodHandle" ∧ yX10_stroke.cls ≠ "java/lang/invoke/VarHandle" ∧ (parseMethodDescriptor yX10_stroke.desc).map (fun d => d.parameters.length) = some 2 := by decide +kernel
theorem md_X10_stuff : yX10_stuff.cls = RX10 ∧ yX10_stuff.cls ≠ "java/lang/invoke/MethodHandle" ∧ yX10_stuff.cls ≠ "java/lang/invoke/VarHandle" ∧ (parseMethodDescriptor yX10_stuff.desc).map (fun d => d.parameters.length) = some 2 := by decide +kernel
theorem md_X10_tag : yX10_tag.cls = RX10 ∧ yX10_tag.cls ≠ "java/lang/invoke/MethodHandle" ∧ yX10_tag.cls ≠ "java/lang/invoke/VarHandle" ∧ (parseMethodDescriptor yX10_tag.desc).map (fun d => d.parameters.length) = some 1 := by decide +kernel
theorem md_X10_thing : yX10_thing.cls = RX10 ∧ yX10_thing.cls ≠ "java/lang/invoke/MethodHandle" ∧ yX10_thing.cls ≠ "java/lang/invoke/VarHandle" ∧ (parseMethodDescriptor yX10_thing.desc).map (fun d => d.parameters.length) = some 2 := by decide +kernel
theorem md_X10_told : yX10_told.cls = RX10 ∧ yX10_told.cls ≠ "java/lang/invoke/MethodHandle" ∧ yX10_told.cls ≠ "java/lang/invoke/VarHandle" ∧ (parseMethodDescriptor yX10_told.desc).map (fun d => d.parameters.length) = some 1 := by decide +kernel
theorem md_X10_undo : yX10_undo.cls = RX10 ∧ yX10_undo.cls ≠ "java/lang/invoke/MethodHandle" ∧ yX10_undo.cls ≠ "java/lang/invoke/VarHandle" ∧ (parseMethodDescriptor yX10_undo.desc).map (fun d => d.parameters.length) = some 0 := by decide +kernel
theorem md_X11_ask : yX11_ask.cls = RX11 ∧ yX11_ask.cls ≠ "java/lang/invoke/MethodHandle" ∧ yX11_ask.cls ≠ "java/lang/invoke/VarHandle" ∧ (parseMethodDescriptor yX11_ask.desc).map (fun d => d.parameters.length) = some 0 := by decide +kernel
theorem md_X11_bed : yX11_bed.cls = RX11 ∧ yX11_bed.cls ≠ "java/lang/invoke/MethodHandle" ∧ yX11_bed.cls ≠ "java/lang/invoke/VarHandle" ∧ (parseMethodDescriptor yX11_bed.desc).map (fun d => d.parameters.length) = some 2 := by decide +kernel
theorem md_X11_bedded : yX11_bedded.cls = RX11 ∧ yX11_bedded.cls ≠ "java/lang/invoke/MethodHandle" ∧ yX11_bedded.cls ≠ "java/lang/invoke/VarHandle" ∧ (parseMethodDescriptor yX11_bedded.desc).map (fun d => d.parameters.length) = some 0 := by decide +kernel
theorem md_X11_beds : yX11_beds.cls = RX11 ∧ yX11_beds.cls ≠ "java/lang/invoke/MethodHandle" ∧ yX11_beds.cls ≠ "java/lang/invoke/VarHandle" ∧ (parseMethodDescriptor yX11_beds.desc).map (fun d => d.parameters.length) = some 0 := by decide +kernel
theorem md_X11_book : yX11_book.cls = RX11 ∧ yX11_book.cls ≠ "java/lang/invoke/MethodHandle" ∧ yX11_book.cls ≠ "java/lang/invoke/VarHandle" ∧ (parseMethodDescriptor yX11_book.desc).map (fun d => d.parameters.length) = some 1 := by decide +kernel
theorem md_X11_byteAt : yX11_byteAt.cls = RX11 ∧ yX11_byteAt.cls ≠ "java/lang/invoke/MethodHandle" ∧ yX11_byteAt.cls ≠ "java/lang/invoke/VarHandle" ∧ (parseMethodDescriptor yX11_byteAt.desc).map (fun d => d.parameters.length) = some 1 := by decide +kernel
theorem md_X11_count : yX11_count.cls = RX11 ∧ yX11_count.cls ≠ "java/lang/invoke/MethodHandle" ∧ yX11_count.cls ≠ "java/lang/invoke/VarHandle" ∧ (parseMethodDescriptor yX11_count.desc).map (fun d => d.parameters.length) = some 1 := by decide +kernel
theorem md_X11_cut : yX11_cut.cls = RX11 ∧ yX11_cut.cls ≠ "java/lang/invoke/MethodHandle" ∧ yX11_cut.cls ≠ "java/lang/invoke/VarHandle" ∧ (parseMethodDescriptor yX11_cut.desc).map (fun d => d.parameters.length) = some 1 := by decide +kernel
theorem md_X11_days : yX11_days.cls = RX11 ∧ yX11_days.cls ≠ "java/lang/invoke/MethodHandle" ∧ yX11_days.cls ≠ "java/lang/invoke/VarHandle" ∧ (parseMethodDescriptor yX11_days.desc).map (fun d => d.parameters.length) = some 1 := by decide +kernel
theorem md_X11_drawn : yX11_drawn.cls = RX11 ∧ yX11_drawn.cls ≠ "java/lang/invoke/MethodHandle" ∧ yX11_drawn.cls ≠ "java/lang/invoke/VarHandle" ∧ (parseMethodDescriptor yX11_drawn.desc).map (fun d => d.parameters.length) = some 2 := by decide +kernel
theorem md_X11_ease : yX11_ease.cls = RX11 ∧ yX11_ease.cls ≠ "java/lang/invoke/MethodHandle" ∧ yX11_ease.cls ≠ "java/lang/invoke/VarHandle" ∧ (parseMethodDescriptor yX11_ease.desc).map (fun d => d.parameters.length) = some 1 := by decide +kernel
theorem md_X11_end : yX11_end.cls = RX11 ∧ yX11_end.cls ≠ "java/lang/invoke/MethodHandle" ∧ yX11_end.cls ≠ "java/lang/invoke/VarHandle" ∧ (parseMethodDescriptor yX11_end.desc).map (fun d => d.parameters.length) = some 1 := by decide +kernel
theorem md_X11_fault : yX11_fault.cls = RX11 ∧ yX11_fault.cls ≠ "java/lang/invoke/MethodHandle" ∧ yX11_fault.cls ≠ "java/lang/invoke/VarHandle" ∧ (parseMethodDescriptor yX11_fault.desc).map (fun d => d.parameters.length) = some 0 := by decide +kernel
theorem md_X11_feed : yX11_feed.cls = RX11 ∧ yX11_feed.cls ≠ "java/lang/invoke/MethodHandle" ∧ yX11_feed.cls ≠ "java/lang/invoke/VarHandle" ∧ (parseMethodDescriptor yX11_feed.desc).map (fun d => d.parameters.length) = some 5 := by decide +kernel
theorem md_X11_fits : yX11_fits.cls = RX11 ∧ yX11_fits.cls ≠ "java/lang/invoke/MethodHandle" ∧ yX11_fits.cls ≠ "java/lang/invoke/VarHandle" ∧ (parseMethodDescriptor yX11_fits.desc).map (fun d => d.parameters.length) = some 0 := by decide +kernel
theorem md_X11_hardest : yX11_hardest.cls = RX11 ∧ yX11_hardest.cls ≠ "java/lang/invoke/MethodHandle" ∧ yX11_hardest.cls ≠ "java/lang/invoke/VarHandle" ∧ (parseMethodDescriptor yX11_hardest.desc).map (fun d => d.parameters.length) = some 0 := by decide +kernel
theorem md_X11_image : yX11_image.cls = RX11 ∧ yX11_image.cls ≠ "java/lang/invoke/MethodHandle" ∧ yX11_image.cls ≠ "java/lang/invoke/VarHandle" ∧ (parseMethodDescriptor yX11_image.desc).map (fun d => d.parameters.length) = some 1 := by decide +kernel
theorem md_X11_layer : yX11_layer.cls = RX11 ∧ yX11_layer.cls ≠ "java/lang/invoke/MethodHandle" ∧ yX11_layer.cls ≠ "java/lang/invoke/VarHandle" ∧ (parseMethodDescriptor yX11_layer.desc).map (fun d => d.parameters.length) = some 2 := by decide +kernel
theorem md_X11_like : yX11_like.cls = RX11 ∧ yX11_like.cls ≠ "java/lang/invoke/MethodHandle" ∧ yX11_like.cls ≠ "java/lang/invoke/VarHandle" ∧ (parseMethodDescriptor yX11_like.desc).map (fun d => d.parameters.length) = some 1 := by decide +kernel
theorem md_X11_mean : yX11_mean.cls = RX11 ∧ yX11_mean.cls ≠ "java/lang/invoke/MethodHandle" ∧ yX11_mean.cls ≠ "java/lang/invoke/VarHandle" ∧ (parseMethodDescriptor yX11_mean.desc).map (fun d => d.parameters.length) = some 2 := by decide +kernel
theorem md_X11_nests : yX11_nests.cls = RX11 ∧ yX11_nests.cls ≠ "java/lang/invoke/MethodHandle" ∧ yX11_nests.cls ≠ "java/lang/invoke/VarHandle" ∧ (parseMethodDescriptor yX11_nests.desc).map (fun d => d.parameters.length) = some 1 := by decide +kernel
theorem md_X11_now : yX11_now.cls = RX11 ∧ yX11_now.cls ≠ "java/lang/invoke/MethodHandle" ∧ yX11_now.cls ≠ "java/lang/invoke/VarHandle" ∧ (parseMethodDescriptor yX11_now.desc).map (fun d => d.parameters.length) = some 1 := by decide +kernel
theorem md_X11_odds : yX11_odds.cls = RX11 ∧ yX11_odds.cls ≠ "java/lang/invoke/MethodHandle" ∧ yX11_odds.cls ≠ "java/lang/invoke/VarHandle" ∧ (parseMethodDescriptor yX11_odds.desc).map (fun d => d.parameters.length) = some 3 := by decide +kernel
theorem md_X11_person : yX11_person.cls = RX11 ∧ yX11_person.cls ≠ "java/lang/invoke/MethodHandle" ∧ yX11_person.cls ≠ "java/lang/invoke/VarHandle" ∧ (parseMethodDescriptor yX11_person.desc).map (fun d => d.parameters.length) = some 2 := by decide +kernel
theorem md_X11_quarter : yX11_quarter.cls = RX11 ∧ yX11_quarter.cls ≠ "java/lang/invoke/MethodHandle" ∧ yX11_quarter.cls ≠ "java/lang/invoke/VarHandle" ∧ (parseMethodDescriptor yX11_quarter.desc).map (fun d => d.parameters.length) = some 0 := by decide +kernel
theorem md_X11_restore : yX11_restore.cls = RX11 ∧ yX11_restore.cls ≠ "java/lang/invoke/MethodHandle" ∧ yX11_restore.cls ≠ "java/lang/invoke/VarHandle" ∧ (parseMethodDescriptor yX11_restore.desc).map (fun d => d.parameters.length) = some 1 := by decide +kernel
theorem md_X11_round : yX11_round.cls = RX11 ∧ yX11_round.cls ≠ "java/lang/invoke/MethodHandle" ∧ yX11_round.cls ≠ "java/lang/invoke/VarHandle" ∧ (parseMethodDescriptor yX11_round.desc).map (fun d => d.parameters.length) = some 1 := by decide +kernel
theorem md_X11_rounded : yX11_rounded.cls = RX11 ∧ yX11_rounded.cls ≠ "java/lang/invoke/MethodHandle" ∧ yX11_rounded.cls ≠ "java/lang/invoke/VarHandle" ∧ (parseMethodDescriptor yX11_rounded.desc).map (fun d => d.parameters.length) = some 0 := by decide +kernel
theorem md_X11_said : yX11_said.cls = RX11 ∧ yX11_said.cls ≠ "java/lang/invoke/MethodHandle" ∧ yX11_said.cls ≠ "java/lang/invoke/VarHandle" ∧ (parseMethodDescriptor yX11_said.desc).map (fun d => d.parameters.length) = some 1 := by decide +kernel
theorem md_X11_sentence : yX11_sentence.cls = RX11 ∧ yX11_sentence.cls ≠ "java/lang/invoke/MethodHandle" ∧ yX11_sentence.cls ≠ "java/lang/invoke/VarHandle" ∧ (parseMethodDescriptor yX11_sentence.desc).map (fun d => d.parameters.length) = some 0 := by decide +kernel
theorem md_X11_snag : yX11_snag.cls = RX11 ∧ yX11_snag.cls ≠ "java/lang/invoke/MethodHandle" ∧ yX11_snag.cls ≠ "java/lang/invoke/VarHandle" ∧ (parseMethodDescriptor yX11_snag.desc).map (fun d => d.parameters.length) = some 2 := by decide +kernel
theorem md_X11_stroke : yX11_stroke.cls = RX11 ∧ yX11_stroke.cls ≠ "java/lang/invoke/MethodHandle" ∧ yX11_stroke.cls ≠ "java/lang/invoke/VarHandle" ∧ (parseMethodDescriptor yX11_stroke.desc).map (fun d => d.parameters.length) = some 2 := by decide +kernel
theorem md_X11_stuff : yX11_stuff.cls = RX11 ∧ yX11_stuff.cls ≠ "java/lang/invoke/MethodHandle" ∧ yX11_stuff.cls ≠ "java/lang/invoke/VarHandle" ∧ (parseMethodDescriptor yX11_stuff.desc).map (fun d => d.parameters.length) = some 2 := by decide +kernel
theorem md_X11_tag : yX11_tag.cls = RX11 ∧ yX11_tag.cls ≠ "java/lang/invoke/MethodHandle" ∧ yX11_tag.cls ≠ "java/lang/invoke/VarHandle" ∧ (parseMethodDescriptor yX11_tag.desc).map (fun d => d.parameters.length) = some 1 := by decide +kernel
theorem md_X11_thing : yX11_thing.cls = RX11 ∧ yX11_thing.cls ≠ "java/lang/invoke/MethodHandle" ∧ yX11_thing.cls ≠ "java/lang/invoke/VarHandle" ∧ (parseMethodDescriptor yX11_thing.desc).map (fun d => d.parameters.length) = some 2 := by decide +kernel
theorem md_X11_thrown : yX11_thrown.cls = RX11 ∧ yX11_thrown.cls ≠ "java/lang/invoke/MethodHandle" ∧ yX11_thrown.cls ≠ "java/lang/invoke/VarHandle" ∧ (parseMethodDescriptor yX11_thrown.desc).map (fun d => d.parameters.length) = some 0 := by decide +kernel
theorem md_X11_told : yX11_told.cls = RX11 ∧ yX11_told.cls ≠ "java/lang/invoke/MethodHandle" ∧ yX11_told.cls ≠ "java/lang/invoke/VarHandle" ∧ (parseMethodDescriptor yX11_told.desc).map (fun d => d.parameters.length) = some 1 := by decide +kernel
theorem md_X11_undo : yX11_undo.cls = RX11 ∧ yX11_undo.cls ≠ "java/lang/invoke/MethodHandle" ∧ yX11_undo.cls ≠ "java/lang/invoke/VarHandle" ∧ (parseMethodDescriptor yX11_undo.desc).map (fun d => d.parameters.length) = some 0 := by decide +kernel

theorem wm_RLs_41 : Cond.methodLink RL 41 yL_person ∈ gw ∧ Cond.static yL_person ∈ gw ∧ Cond.initialized yL_person.cls ∈ gw ∧ Cond.codeWith yL_person cL_person 5 (some .int) [(0, 10, 13, 13)] ∈ gw := ⟨gw_at 1247 (by decide +kernel) rfl, gw_at 1248 (by decide +kernel) rfl, gw_at 114 (by decide +kernel) rfl, gw_at 1249 (by decide +kernel) rfl⟩
theorem md_L_person : yL_person.cls ≠ "java/lang/invoke/MethodHandle" ∧ yL_person.cls ≠ "java/lang/invoke/VarHandle" ∧ (parseMethodDescriptor yL_person.desc).map (fun d => d.parameters.length) = some 4 := by decide +kernel
theorem wm_RLs_131 : Cond.methodLink RL 131 yL_mean ∈ gw ∧ Cond.static yL_mean ∈ gw ∧ Cond.initialized yL_mean.cls ∈ gw ∧ Cond.codeWith yL_mean cL_mean 5 (some .int) [(0, 10, 13, 13)] ∈ gw := ⟨gw_at 1324 (by decide +kernel) rfl, gw_at 1325 (by decide +kernel) rfl, gw_at 114 (by decide +kernel) rfl, gw_at 1326 (by decide +kernel) rfl⟩
theorem md_L_mean : yL_mean.cls ≠ "java/lang/invoke/MethodHandle" ∧ yL_mean.cls ≠ "java/lang/invoke/VarHandle" ∧ (parseMethodDescriptor yL_mean.desc).map (fun d => d.parameters.length) = some 4 := by decide +kernel
