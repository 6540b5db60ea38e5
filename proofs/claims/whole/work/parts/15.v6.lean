def nseN : String := "java/util/NoSuchElementException"
def nseUp : List String := ["java/lang/RuntimeException", "java/lang/Exception"]
theorem nse_at : ∀ w ∈ (nseAtoms RX10 130 nseN "java/lang/RuntimeException" ["java/lang/Exception"]).filter vx_no, w ∈ lw_tbl ∧ (goodWord w || isNw w) = true := by
  have hp : (nseAtoms RX10 130 nseN "java/lang/RuntimeException" ["java/lang/Exception"]).filter vx_no = ([130, 1277, 1286, 1288, 1291, 1293, 1278, 1279, 141, 142, 1280, 1285, 1289, 1309, 1267, 1310, 1269, 1311, 1271, 1281, 1283, 1273, 1305, 1306, 1308, 1273, 1296, 1297, 1298, 1299, 1259, 1299, 1300, 1301, 1302, 1261, 1302, 1303, 1304, 1305, 1263, 1295, 1256, 1257, 1264, 1265, 1266, 1268, 1270, 1272, 1307, 1275, 1274] : List Nat).filterMap (fun i => lw_tbl[i]?) := by decide +kernel
  have hg : ((nseAtoms RX10 130 nseN "java/lang/RuntimeException" ["java/lang/Exception"]).filter vx_no).all (fun w => goodWord w || isNw w) = true := by decide +kernel
  intro w hw
  refine ⟨?_, List.all_eq_true.mp hg w hw⟩
  rw [hp] at hw
  obtain ⟨i, -, hi⟩ := List.mem_filterMap.mp hw
  exact List.mem_of_getElem? hi
theorem nse_ot : ∀ w ∈ Cond.classLink RX10 126 nseN :: Cond.initialized nseN :: ((nseAtoms RX10 130 nseN "java/lang/RuntimeException" ["java/lang/Exception"]).filter vx_no), vx_ot w = true := by
  have hg : (Cond.classLink RX10 126 nseN :: Cond.initialized nseN :: ((nseAtoms RX10 130 nseN "java/lang/RuntimeException" ["java/lang/Exception"]).filter vx_no)).all vx_ot = true := by decide +kernel
  exact fun w hw => List.all_eq_true.mp hg w hw
theorem nse_w1 : Cond.classLink RX10 126 nseN ∈ gw := gw_at 1255 (by decide +kernel) rfl
theorem nse_w2 : Cond.initialized nseN ∈ gw := gw_at 133 (by decide +kernel) rfl
def QX (G : Wc) (r : Option Int32) (h1 : Nat → Ob) : Array Value → State → Outcome → State → Prop := fun a st o t => ∃ v, r = some v ∧ Pq G (some (.int v)) h1 a st o t
def XX (G : Wc) (r : Option Int32) (h1 : Nat → Ob) : String → State → State → Prop := fun E st t => r = none ∧ E = nseN ∧ va_P (wD G) vwCl (allc G h1) t.heap ∧ va_F (wF G) st t
def rmX (fr lo : Nat) : Room := { frames := fr, cells := 1, slots := 6, locals := lo }
/-- a contract of a method that answers or throws -/
def CnX (y : MethodName) (cc : ByteArray) (nL fr lo : Nat) (G : Wc) (As : List Value) (us : List (Nat × Ob)) (r : Option Int32) : Prop :=
  (wL G).stackTraces = false → nd us → ∀ h : Nat → Ob, (∀ q ∈ us, h q.1 = q.2) → vx_Met (wL G) y (Cond.code y cc nL (some .int) :: gw) (rmX fr lo) (va_Pc As (Wd G h)) (QX G r (ov h us)) (XX G r (ov h us)) 1 6 (wF G)
def FnlX (G : Wc) (Γ : Cx) (r : Option Int32) (h1 : Nat → Ob) : Prop :=
  Γ.2.1.2.2.2.1.sig.returnType = some .int ∧ Γ.2.2.1.2.2 = vx_MQ Γ.2.1.2.2.1 (QX G r h1) (XX G r h1) Γ.2.1.2.1 Γ.1.2.2.2.2 1 6 (wF G) ∧ Γ.2.2.1.1 = 0 ∧ Γ.2.2.1.2.1 = 0 ∧ (1 ≤ Γ.1.2.2.2.1.cells ∧ 6 ≤ Γ.1.2.2.2.1.slots) ∧ (∀ x ∈ Γ.2.1.2.2.2.2.exceptionTable.toList, False) ∧ (wL G).stackTraces = false
theorem V_iretX {cc : ByteArray} {own : String} {fr lo nL : Nat} {G : Wc} {Γ : Cx} {us : List (Nat × Ob)} {pc : Nat} {L : List (Nat × Value)} {v : Int32} (hf : FnlX G Γ (some v) (ov Γ.2.2.2 us)) (d : decode cc pc = .ok (.ireturn, 1)) : V cc own fr lo nL G Γ us pc L [.int v] := by
  intro ok hn H locs ls hP hS hl
  obtain ⟨h1, h2, h3, h4, h5, h6, h7⟩ := hf
  rw [h2]
  refine vx_ret ?_
  refine W.widen (k := 1) (n := 6) (by rw [h3]; omega) (by rw [h4]; omega) ?_
  exact W.iret ok.1 ok.2.1 h1 (fun t ht hW => ⟨v, rfl, fin_post ok hP hS t ht hW⟩) (fun q hq => hS.2.2 q hq) d ok.2.2.2.2.2.1
theorem V_throwX {cc : ByteArray} {fr lo nL : Nat} {G : Wc} {Γ : Cx} {us : List (Nat × Ob)} {pc : Nat} {L : List (Nat × Value)} {st : List Value} {is : Nat} {text : String} (hf : FnlX G Γ none (ov Γ.2.2.2 us)) (hstr : ∀ U : State, sRf U → ∃ a, vk_R RX10 is text a U) (hfr : 6 ≤ fr) (hlo : 120 ≤ lo) (hrm : (st.map fun v => v.category).sum ≤ 8)
    (d0 : decode cc pc = .ok (.new 126, 3)) (d3 : decode cc (pc + 3) = .ok (.dup, 1)) (d4 : decode cc (pc + 4) = .ok (.ldc is, 2)) (d6 : decode cc (pc + 6) = .ok (.invokespecial 130, 3)) (d9 : decode cc (pc + 9) = .ok (.athrow, 1)) : V cc RX10 fr lo nL G Γ us pc L st := by
  intro ok hn H locs ls hP hS hl
  obtain ⟨h1, h2, h3, h4, h5, h6, h7⟩ := hf
  obtain ⟨hx, hb, hml, hown, hts, hlk, hRm, hcs, hK, hNw, hst0, hD, hz, hL⟩ := ok
  obtain ⟨sa, hsa⟩ := hstr _ hNw.2
  rw [h2]
  refine nse_throwS (Y0 := "java/lang/RuntimeException") (r0 := ["java/lang/Exception"]) (cls := nseN) hx hb (by rw [hL]; exact h7) hown (by decide) (by decide) (hts _ nse_w1) (hts _ nse_w2) hsa (fun w hw => ?_) nse_ot hst0.2.2.2.1 hst0.2.2.2.2 hS (by rw [hl.1]; exact hml.symm) d0 d3 d4 d6 d9 (fun x hx => absurd (h6 x hx) id) (Nat.lt_of_lt_of_le (by show 2 + 3 < 6; omega) (Nat.le_trans hfr hRm.1)) (Nat.le_trans (Nat.le_trans (Nat.add_le_add_right hrm _) (by decide)) (Nat.le_trans hlo hRm.2)) (by rw [h3]; exact h5.1) (by rw [h4]; exact h5.2) hlk (fun t hal hle hq => ⟨rfl, rfl, hP.kept (fun k q hk => hq q.1 (vx_lt hP hk)), Nat.le_trans hS.1 hle, fun a ha1 ha2 => by rw [hq a (Nat.lt_of_lt_of_le ha1 hS.1)]; exact hS.2.1 a ha1 ha2⟩) (fun z hz => hS.2.2 z hz) (by rw [h3]; omega) (by rw [h4]; omega)
  obtain ⟨hm, hg⟩ := nse_at w hw
  rcases Bool.or_eq_true_iff.mp hg with h | h
  · exact hts _ (List.mem_filter.mpr ⟨hm, h⟩)
  · exact va_Nw.use (by cases w <;> first | (cases h; done) | rfl) (hNw.1 w hm h)
theorem V_throwXW {cc : ByteArray} {fr lo nL : Nat} {G : Wc} {Γ : Cx} {us : List (Nat × Ob)} {pc : Nat} {L : List (Nat × Value)} {st : List Value} {is : Nat} {text : String} (hf : FnlX G Γ none (ov Γ.2.2.2 us)) (hstr : ∀ U : State, sRf U → ∃ a, vk_R RX10 is text a U) (hfr : 6 ≤ fr) (hlo : 120 ≤ lo) (hrm : (st.map fun v => v.category).sum ≤ 8)
    (d0 : decode cc pc = .ok (.new 126, 3)) (d3 : decode cc (pc + 3) = .ok (.dup, 1)) (d4 : decode cc (pc + 4) = .ok (.ldc_w is, 3)) (d6 : decode cc (pc + 7) = .ok (.invokespecial 130, 3)) (d9 : decode cc (pc + 10) = .ok (.athrow, 1)) : V cc RX10 fr lo nL G Γ us pc L st := by
  intro ok hn H locs ls hP hS hl
  obtain ⟨h1, h2, h3, h4, h5, h6, h7⟩ := hf
  obtain ⟨hx, hb, hml, hown, hts, hlk, hRm, hcs, hK, hNw, hst0, hD, hz, hL⟩ := ok
  obtain ⟨sa, hsa⟩ := hstr _ hNw.2
  rw [h2]
  refine nse_throwSW (Y0 := "java/lang/RuntimeException") (r0 := ["java/lang/Exception"]) (cls := nseN) hx hb (by rw [hL]; exact h7) hown (by decide) (by decide) (hts _ nse_w1) (hts _ nse_w2) hsa (fun w hw => ?_) nse_ot hst0.2.2.2.1 hst0.2.2.2.2 hS (by rw [hl.1]; exact hml.symm) d0 d3 d4 d6 d9 (fun x hx => absurd (h6 x hx) id) (Nat.lt_of_lt_of_le (by show 2 + 3 < 6; omega) (Nat.le_trans hfr hRm.1)) (Nat.le_trans (Nat.le_trans (Nat.add_le_add_right hrm _) (by decide)) (Nat.le_trans hlo hRm.2)) (by rw [h3]; exact h5.1) (by rw [h4]; exact h5.2) hlk (fun t hal hle hq => ⟨rfl, rfl, hP.kept (fun k q hk => hq q.1 (vx_lt hP hk)), Nat.le_trans hS.1 hle, fun a ha1 ha2 => by rw [hq a (Nat.lt_of_lt_of_le ha1 hS.1)]; exact hS.2.1 a ha1 ha2⟩) (fun z hz => hS.2.2 z hz) (by rw [h3]; omega) (by rw [h4]; omega)
  obtain ⟨hm, hg⟩ := nse_at w hw
  rcases Bool.or_eq_true_iff.mp hg with h | h
  · exact hts _ (List.mem_filter.mpr ⟨hm, h⟩)
  · exact va_Nw.use (by cases w <;> first | (cases h; done) | rfl) (hNw.1 w hm h)
theorem V_methodX {y : MethodName} {cc : ByteArray} {own : String} {nL fr lo : Nat} {G : Wc} {As : List Value} {us : List (Nat × Ob)} {r : Option Int32} (L0 : List (Nat × Value)) (hy : plainName y.cls = true) (hown : y.cls = own) (hAs : (lg_sl As).length ≤ nL) (hL0 : lv_args 0 As = L0)
    (body : ∀ Γ : Cx, FnlX G Γ r (ov Γ.2.2.2 us) → V cc own fr lo nL G Γ us 0 L0 []) : CnX y cc nL fr lo G As us r := by
  intro hnt hn h hh
  refine vx_ofW (cc := cc) (maxL := nL) (ret := some .int) hy rfl ?_
  intro p e s m args below meth c s₁ B hml htab hv
  obtain ⟨rfl, hP, hK, hNw, hst, hD, hz⟩ := hv
  have hts : ∀ w ∈ Cond.code y cc nL (some .int) :: gw, w.before As.toArray s = true := atoms_spec (ws := Cond.code y cc nL (some .int) :: gw) B.pre
  have hE : ov h us = h := by
    funext j
    by_cases hj : j ∈ us.map (fun q => q.1)
    · obtain ⟨q, hq, rfl⟩ := List.mem_map.mp hj
      rw [ov_at hn hq, hh q hq]
    · exact ov_out hj
  have hl := lv_entry As hAs
  rw [hL0] at hl
  have hfc := findClass_of_methodNamed B.named
  rw [hown] at hfc
  have key := body ((p, wL G, e, (headSpec (Cond.code y cc nL (some .int) :: gw) (rmX fr lo)).room, s), (m, As.toArray, below, meth, c), (0, 0, vx_MQ below (QX G r (ov h us)) (XX G r (ov h us)) As.toArray s 1 6 (wF G)), h) ⟨B.returns, rfl, rfl, rfl, ⟨Nat.le_refl _, Nat.le_refl _⟩, htab, hnt⟩ ⟨B.exec, B.bytes, hml, hfc, fun w hw => hts w (List.mem_cons_of_mem _ hw), B.notSynchronized, ⟨Nat.le_refl _, Nat.le_refl _⟩, ⟨Nat.zero_le _, Nat.zero_le _⟩, hK, hNw, hst, hD, hz, rfl⟩ hn s.heap [] _ (by rw [hE]; exact hP) va_S.rf hl
  rw [lg_entry_eq]
  exact key
