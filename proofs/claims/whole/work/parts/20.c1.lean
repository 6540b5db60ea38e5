/-! Objects under construction: the world is a list of cells -/
def aoL : List String := ["CombedOut$Word", "CombedOut$State", "CombedOut$Image"]
def aoF (U : State) : Prop := ∀ c ∈ aoL, va_AO c U
def OkC (cc : ByteArray) (own : String) (fr lo nL MC MS : Nat) (G : Wc) (A : Nat → Prop) (Γ : Cx) : Prop :=
  Γ.1.1.tables.exec = Jvm.exec ∧ Γ.2.1.2.2.2.2.code = cc ∧ Γ.2.1.2.2.2.2.maxLocals = nL ∧ Γ.1.2.2.2.2.vm.findClass own = some Γ.2.1.1.cls ∧ (∀ w ∈ gw, w.before Γ.2.1.2.1 Γ.1.2.2.2.2 = true) ∧
  Γ.2.1.2.2.2.1.locks = false ∧ (fr ≤ Γ.1.2.2.2.1.frames ∧ lo ≤ Γ.1.2.2.2.1.locals) ∧ (MC ≤ Γ.1.2.2.2.1.cells ∧ MS ≤ Γ.1.2.2.2.1.slots) ∧
  va_K (wD G) vwCl (wTys G) Γ.1.2.2.2.2 ∧ nwAll Γ.1.2.2.2.2 ∧ Γ.1.2.1 = wL G ∧ (∀ q, Γ.1.2.2.2.2.heap.size ≤ q → A q) ∧ aoF Γ.1.2.2.2.2
def C (cc : ByteArray) (own : String) (fr lo nL MC MS : Nat) (G : Wc) (A : Nat → Prop) (Γ : Cx) (ws : va_W) (ca sl pc : Nat) (L : List (Nat × Value)) (st : List Value) : Prop :=
  OkC cc own fr lo nL MC MS G A Γ → ∀ (H : Heap) (locs : List Loc) (ls : Array Slot), va_P (wD G) vwCl ws H → va_D A ws → va_S A Γ.1.2.2.2.2.heap H locs → lv_has ls nL L → W Γ.1.1 Γ.1.2.1 Γ.1.2.2.1 Γ.1.2.2.2.1 Γ.1.2.2.2.2 Γ.2.1.1 Γ.2.1.2.1 Γ.2.1.2.2.1 Γ.2.1.2.2.2.1 Γ.2.1.2.2.2.2 H locs ca sl Γ.2.2.1.2.2 (F0 Γ.2.1.1 pc ls st)
def rmC (fr lo mc ms : Nat) : Room := { frames := fr, cells := mc, slots := ms, locals := lo }
/-- what a constructor leaves -/
def QI (G : Wc) (q : Nat) (d : va_E) (post : va_W → Prop) (sz : Nat) : Array Value → State → Outcome → State → Prop := fun _ st oc t => oc = .returned none ∧ (∃ ws : va_W, post ws ∧ va_P (wD G) vwCl ws t.heap ∧ va_D (va_A [(q, d)] sz) ws) ∧ va_F (va_A [(q, d)] sz) st t
/-- a constructor's contract -/
def CnI (y : MethodName) (cc : ByteArray) (nL fr lo mc ms : Nat) (G : Wc) (q : Nat) (d : va_E) (post : va_W → Prop) : Prop :=
  ∀ sz : Nat, Met (wL G) y (Cond.code y cc nL none :: gw) (rmC fr lo mc ms) (va_Pc [.ref q] (fun U => U.heap.size = sz ∧ va_P (wD G) vwCl [(q, d)] U.heap ∧ va_K (wD G) vwCl (wTys G) U ∧ nwAll U ∧ aoF U))
    (QI G q d post sz) mc ms (va_A [(q, d)] sz)
theorem c_iconst {cc : ByteArray} {own : String} {fr lo nL MC MS : Nat} {G : Wc} {A : Nat → Prop} {Γ : Cx} {ws : va_W} {ca sl pc : Nat} {L : List (Nat × Value)} {st : List Value} {n : Int} (v : Int32) (d : decode cc pc = .ok (.iconst n, 1)) (hv : Int32.ofInt n = v) (kk : C cc own fr lo nL MC MS G A Γ ws ca sl (pc + 1) L (.int v :: st)) : C cc own fr lo nL MC MS G A Γ ws ca sl pc L st :=
  fun ok H locs ls hP hD hS hl => lv_iconst ok.1 ok.2.1 d hv (kk ok H locs ls hP hD hS hl)
theorem c_bipush {cc : ByteArray} {own : String} {fr lo nL MC MS : Nat} {G : Wc} {A : Nat → Prop} {Γ : Cx} {ws : va_W} {ca sl pc : Nat} {L : List (Nat × Value)} {st : List Value} {n : Int} (v : Int32) (d : decode cc pc = .ok (.bipush n, 2)) (hv : (Int8.ofInt n).toInt32 = v) (kk : C cc own fr lo nL MC MS G A Γ ws ca sl (pc + 2) L (.int v :: st)) : C cc own fr lo nL MC MS G A Γ ws ca sl pc L st :=
  fun ok H locs ls hP hD hS hl => lv_bipush ok.1 ok.2.1 d hv (kk ok H locs ls hP hD hS hl)
theorem c_sipush {cc : ByteArray} {own : String} {fr lo nL MC MS : Nat} {G : Wc} {A : Nat → Prop} {Γ : Cx} {ws : va_W} {ca sl pc : Nat} {L : List (Nat × Value)} {st : List Value} {n : Int} (v : Int32) (d : decode cc pc = .ok (.sipush n, 3)) (hv : (Int16.ofInt n).toInt32 = v) (kk : C cc own fr lo nL MC MS G A Γ ws ca sl (pc + 3) L (.int v :: st)) : C cc own fr lo nL MC MS G A Γ ws ca sl pc L st :=
  fun ok H locs ls hP hD hS hl => lv_sipush ok.1 ok.2.1 d hv (kk ok H locs ls hP hD hS hl)
theorem c_iload_n {cc : ByteArray} {own : String} {fr lo nL MC MS : Nat} {G : Wc} {A : Nat → Prop} {Γ : Cx} {ws : va_W} {ca sl pc : Nat} {L : List (Nat × Value)} {st : List Value} {k : Fin 4} {x : Int32} (j : Nat) (d : decode cc pc = .ok (.iload_n k, 1)) (hj : L[j]? = some ((k : Nat), .int x)) (kk : C cc own fr lo nL MC MS G A Γ ws ca sl (pc + 1) L (.int x :: st)) : C cc own fr lo nL MC MS G A Γ ws ca sl pc L st :=
  fun ok H locs ls hP hD hS hl => lv_iload_n ok.1 ok.2.1 d rfl (lv_at hl j hj) (kk ok H locs ls hP hD hS hl)
theorem c_aload_n {cc : ByteArray} {own : String} {fr lo nL MC MS : Nat} {G : Wc} {A : Nat → Prop} {Γ : Cx} {ws : va_W} {ca sl pc : Nat} {L : List (Nat × Value)} {st : List Value} {k : Fin 4} {x : Nat} (j : Nat) (d : decode cc pc = .ok (.aload_n k, 1)) (hj : L[j]? = some ((k : Nat), .ref x)) (kk : C cc own fr lo nL MC MS G A Γ ws ca sl (pc + 1) L (.ref x :: st)) : C cc own fr lo nL MC MS G A Γ ws ca sl pc L st :=
  fun ok H locs ls hP hD hS hl => lv_aload_n ok.1 ok.2.1 d rfl (lv_at hl j hj) (kk ok H locs ls hP hD hS hl)
theorem c_dup {cc : ByteArray} {own : String} {fr lo nL MC MS : Nat} {G : Wc} {A : Nat → Prop} {Γ : Cx} {ws : va_W} {ca sl pc : Nat} {L : List (Nat × Value)} {st : List Value} {a : Value} (d : decode cc pc = .ok (.dup, 1)) (ha : a.category = 1) (kk : C cc own fr lo nL MC MS G A Γ ws ca sl (pc + 1) L (a :: a :: st)) : C cc own fr lo nL MC MS G A Γ ws ca sl pc L (a :: st) :=
  fun ok H locs ls hP hD hS hl => lv_dup ok.1 ok.2.1 d ha (kk ok H locs ls hP hD hS hl)
theorem c_istore_n {cc : ByteArray} {own : String} {fr lo nL MC MS : Nat} {G : Wc} {A : Nat → Prop} {Γ : Cx} {ws : va_W} {ca sl pc : Nat} {L : List (Nat × Value)} {st : List Value} {k : Fin 4} {x : Int32} (L1 : List (Nat × Value)) (d : decode cc pc = .ok (.istore_n k, 1)) (hb : (k : Nat) < nL) (hL : ((k : Nat), .int x) :: L.filter (fun q => !(q.1 == (k : Nat)) && !(q.1 + 1 == (k : Nat) && q.2.category == 2)) = L1) (kk : C cc own fr lo nL MC MS G A Γ ws ca sl (pc + 1) L1 st) : C cc own fr lo nL MC MS G A Γ ws ca sl pc L (.int x :: st) :=
  fun ok H locs ls hP hD hS hl => lv_istore_n ok.1 ok.2.1 d rfl hl hb hL (fun ls1 hl1 => kk ok H locs ls1 hP hD hS hl1)
theorem c_astore_n {cc : ByteArray} {own : String} {fr lo nL MC MS : Nat} {G : Wc} {A : Nat → Prop} {Γ : Cx} {ws : va_W} {ca sl pc : Nat} {L : List (Nat × Value)} {st : List Value} {k : Fin 4} {x : Nat} (L1 : List (Nat × Value)) (d : decode cc pc = .ok (.astore_n k, 1)) (hb : (k : Nat) < nL) (hL : ((k : Nat), .ref x) :: L.filter (fun q => !(q.1 == (k : Nat)) && !(q.1 + 1 == (k : Nat) && q.2.category == 2)) = L1) (kk : C cc own fr lo nL MC MS G A Γ ws ca sl (pc + 1) L1 st) : C cc own fr lo nL MC MS G A Γ ws ca sl pc L (.ref x :: st) :=
  fun ok H locs ls hP hD hS hl => lv_astore_n ok.1 ok.2.1 d rfl hl hb hL (fun ls1 hl1 => kk ok H locs ls1 hP hD hS hl1)
theorem c_iinc {cc : ByteArray} {own : String} {fr lo nL MC MS : Nat} {G : Wc} {A : Nat → Prop} {Γ : Cx} {ws : va_W} {ca sl pc : Nat} {L : List (Nat × Value)} {st : List Value} {i : Nat} {n : Int} {x : Int32} (j : Nat) (v : Int32) (L1 : List (Nat × Value)) (d : decode cc pc = .ok (.iinc i n, 3)) (hj : L[j]? = some (i, .int x)) (hv : x + Int32.ofInt n = v) (hb : i < nL) (hL : (i, Value.int v) :: L.filter (fun q => !(q.1 == i) && !(q.1 + 1 == i && q.2.category == 2)) = L1) (kk : C cc own fr lo nL MC MS G A Γ ws ca sl (pc + 3) L1 st) : C cc own fr lo nL MC MS G A Γ ws ca sl pc L st :=
  fun ok H locs ls hP hD hS hl => lv_iinc ok.1 ok.2.1 d hl hj hv hb hL (fun ls1 hl1 => kk ok H locs ls1 hP hD hS hl1)
theorem c_goto {cc : ByteArray} {own : String} {fr lo nL MC MS : Nat} {G : Wc} {A : Nat → Prop} {Γ : Cx} {ws : va_W} {ca sl pc : Nat} {L : List (Nat × Value)} {st : List Value} {off : Int} (tgt : Nat) (d : decode cc pc = .ok (.goto off, 3)) (ht : (pc : Int) + off = (tgt : Int)) (kk : C cc own fr lo nL MC MS G A Γ ws ca sl tgt L st) : C cc own fr lo nL MC MS G A Γ ws ca sl pc L st :=
  fun ok H locs ls hP hD hS hl => lv_goto ok.1 ok.2.1 d ht (kk ok H locs ls hP hD hS hl)
theorem c_icmp_geN {cc : ByteArray} {own : String} {fr lo nL MC MS : Nat} {G : Wc} {A : Nat → Prop} {Γ : Cx} {ws : va_W} {ca sl pc : Nat} {L : List (Nat × Value)} {st : List Value} {x y : Int32} {off : Int} (tgt : Nat) (d : decode cc pc = .ok (.if_icmp .ge off, 3)) (ht : (pc : Int) + off = (tgt : Int)) (hc : ¬ y ≤ x) (kk : C cc own fr lo nL MC MS G A Γ ws ca sl (pc + 3) L st) : C cc own fr lo nL MC MS G A Γ ws ca sl pc L (.int y :: .int x :: st) :=
  fun ok H locs ls hP hD hS hl => lv_icmp_ge ok.1 ok.2.1 d ht (fun c => absurd c hc) (fun _ => kk ok H locs ls hP hD hS hl)
theorem c_icmp_geY {cc : ByteArray} {own : String} {fr lo nL MC MS : Nat} {G : Wc} {A : Nat → Prop} {Γ : Cx} {ws : va_W} {ca sl pc : Nat} {L : List (Nat × Value)} {st : List Value} {x y : Int32} {off : Int} (tgt : Nat) (d : decode cc pc = .ok (.if_icmp .ge off, 3)) (ht : (pc : Int) + off = (tgt : Int)) (hc : y ≤ x) (kk : C cc own fr lo nL MC MS G A Γ ws ca sl tgt L st) : C cc own fr lo nL MC MS G A Γ ws ca sl pc L (.int y :: .int x :: st) :=
  fun ok H locs ls hP hD hS hl => lv_icmp_ge ok.1 ok.2.1 d ht (fun _ => kk ok H locs ls hP hD hS hl) (fun c => absurd hc c)
theorem c_obj {cc : ByteArray} {own : String} {fr lo nL MC MS : Nat} {G : Wc} {A : Nat → Prop} {Γ : Cx} {ws : va_W} {ca sl pc : Nat} {L : List (Nat × Value)} {st : List Value} {idx : Nat} {a : Nat} (hw : Cond.methodLink own idx Lib.objectInit ∈ gw ∧ Cond.instanceMethod Lib.objectInit ∈ gw ∧ Cond.code Lib.objectInit ⟨#[0xb1]⟩ 1 none ∈ gw) (hfr : 1 ≤ fr) (hlo : 40 ≤ lo) (hrm : (st.map fun v => v.category).sum ≤ 8) (d : decode cc pc = .ok (.invokespecial idx, 3)) (kk : C cc own fr lo nL MC MS G A Γ ws ca sl (pc + 3) L st) : C cc own fr lo nL MC MS G A Γ ws ca sl pc L (.ref a :: st) := by
  intro ok H locs ls hP hD hS hl
  have hk := kk ok H locs ls hP hD hS hl
  obtain ⟨hx, hb, hml, hown, hts, hlk, hRm, hcs, hK, hNw, hL, hA, hAO⟩ := ok
  refine W.objInit hx hb hown (hts _ hw.1) (hts _ hw.2.1) (hts _ hw.2.2) rfl (by rw [hml]; exact hl.1) rfl d (Nat.le_trans hfr hRm.1) (Nat.le_trans (Nat.add_le_add_right (lv_room (m := Γ.2.1.1) (pc := pc) (ls := ls) (rest := .ref a :: st) hrm) 12) (Nat.le_trans (Nat.le_trans (by omega) hlo) hRm.2)) ?_
  exact W.eq (g2 := F0 Γ.2.1.1 (pc + 3) ls st) rfl hk
theorem c_widen {cc : ByteArray} {own : String} {fr lo nL MC MS : Nat} {G : Wc} {A : Nat → Prop} {Γ : Cx} {ws : va_W} {ca sl pc : Nat} {L : List (Nat × Value)} {st : List Value} {ca1 sl1 : Nat} (h1 : ca ≤ ca1) (h2 : sl ≤ sl1) (kk : C cc own fr lo nL MC MS G A Γ ws ca1 sl1 pc L st) : C cc own fr lo nL MC MS G A Γ ws ca sl pc L st :=
  fun ok H locs ls hP hD hS hl => W.widen h1 h2 (kk ok H locs ls hP hD hS hl)
theorem c_new {cc : ByteArray} {own : String} {fr lo nL MC MS : Nat} {G : Wc} {A : Nat → Prop} {Γ : Cx} {ws : va_W} {ca sl pc : Nat} {L : List (Nat × Value)} {st : List Value} {CC : String} {T : u_T} {N ci index : Nat} {fs : List Value} (ty : Nat → FieldType) (hty : ∀ k, k < N → parseFieldDescriptor (T k).2.2.1 = some (ty k)) (hin : ∀ w ∈ u_ws CC T N, w ∈ gw) (hw : Cond.classLink own index CC ∈ gw ∧ Cond.instantiable CC N ∈ gw ∧ Cond.initialized CC ∈ gw) (hc : vwCl[ci]? = some (CC, T, N)) (hfs : ∀ j, j < N → defaultValue (ty j) = vp_V fs j) (h1 : ca + 1 ≤ MC) (h2 : sl + N ≤ MS) (d : decode cc pc = .ok (.new index, 3))
    (kk : ∀ q : Nat, C cc own fr lo nL MC MS G A Γ (ws ++ [(q, .inr (ci, fs))]) (ca + 1) (sl + N) (pc + 3) L (.ref q :: st)) : C cc own fr lo nL MC MS G A Γ ws ca sl pc L st := by
  intro ok H locs ls hP hD hS hl
  have ok2 := ok
  obtain ⟨hx, hb, hml, hown, hts, hlk, hRm, hcs, hK, hNw, hL, hA, hAO⟩ := ok
  exact va_new hx hb hts hin ty hty hown (hts _ hw.1) (hts _ hw.2.1) (hts _ hw.2.2) hK hP hD hS hA hc hfs (Nat.le_trans h1 hcs.1) (Nat.le_trans h2 hcs.2) d (fun q H1 hP1 hD1 hS1 => kk q ok2 H1 locs ls hP1 hD1 hS1 hl)
theorem c_newa {cc : ByteArray} {own : String} {fr lo nL MC MS : Nat} {G : Wc} {A : Nat → Prop} {Γ : Cx} {ws : va_W} {ca sl pc : Nat} {L : List (Nat × Value)} {st : List Value} {atype : ArrayType} {ty : FieldType} {n : Int32} {N' t : Nat} {a0 : vp_A} (hw : Cond.arrayClass (newarray.typeOf atype) ∈ gw) (hty : newarray.typeOf atype = ty) (ht : (wTys G)[t]? = some (wT G t, ty)) (hpr : ∀ c c' : ClassId, va_RA Γ.1.2.2.2.2 c ty → va_RA Γ.1.2.2.2.2 c' ty → c = c') (ha : ∀ cA : ClassId, vp_cell cA a0 = arrV cA N' (fun _ => defaultValue ty)) (hn : ¬ n < 0) (hN : n.toNatClampNeg = N') (hbytes : N' * componentBytes ty ≤ 536870912) (h1 : ca + 1 ≤ MC) (h2 : sl + N' ≤ MS) (d : decode cc pc = .ok (.newarray atype, 2))
    (kk : ∀ q : Nat, C cc own fr lo nL MC MS G A Γ (ws ++ [(q, .inl (wT G t, a0))]) (ca + 1) (sl + N') (pc + 2) L (.ref q :: st)) : C cc own fr lo nL MC MS G A Γ ws ca sl pc L (.int n :: st) := by
  intro ok H locs ls hP hD hS hl
  have ok2 := ok
  obtain ⟨hx, hb, hml, hown, hts, hlk, hRm, hcs, hK, hNw, hL, hA, hAO⟩ := ok
  refine va_newa hx hb (hts _ hw) hty hK hP hD hS hA ha hn hN hbytes (Nat.le_trans h1 hcs.1) (Nat.le_trans h2 hcs.2) d (fun q cA H1 hK1 hP1 hD1 hS1 => ?_)
  have e : cA = wT G t := hpr _ _ (hK1.2 (wTys G).length (cA, ty) (by rw [List.getElem?_append_right (Nat.le_refl _), Nat.sub_self]; rfl)).2 (hK.2 t _ ht).2
  subst e
  exact kk q ok2 H1 locs ls hP1 hD1 hS1 hl
theorem c_newq {cc : ByteArray} {own : String} {fr lo nL MC MS : Nat} {G : Wc} {A : Nat → Prop} {Γ : Cx} {ws : va_W} {ca sl pc : Nat} {L : List (Nat × Value)} {st : List Value} {CC : String} {index : Nat} {n : Int32} {N' t : Nat} (hw : Cond.classLink own index CC ∈ gw) (hover : CC ∈ aoL) (ht : (wTys G)[t]? = some (wT G t, .object CC)) (hn : ¬ n < 0) (hN : n.toNatClampNeg = N') (hbytes : N' * 4 ≤ 536870912) (h1 : ca + 1 ≤ MC) (h2 : sl + N' ≤ MS) (d : decode cc pc = .ok (.anewarray index, 3))
    (kk : ∀ q : Nat, C cc own fr lo nL MC MS G A Γ (ws ++ [(q, .inl (wT G t, N', .inr (.inr (.inr (.inr (fun _ => none))))))]) (ca + 1) (sl + N') (pc + 3) L (.ref q :: st)) : C cc own fr lo nL MC MS G A Γ ws ca sl pc L (.int n :: st) := by
  intro ok H locs ls hP hD hS hl
  have ok2 := ok
  obtain ⟨hx, hb, hml, hown, hts, hlk, hRm, hcs, hK, hNw, hL, hA, hAO⟩ := ok
  refine va_newq hx hb hown (hts _ hw) (hAO CC hover) hK hP hD hS hA hn hN hbytes (Nat.le_trans h1 hcs.1) (Nat.le_trans h2 hcs.2) d (fun q cA H1 hK1 hP1 hD1 hS1 => ?_)
  have e : cA = wT G t := by
    obtain ⟨_, _, -, -, -, z1⟩ := (hK1.2 (wTys G).length (cA, .object CC) (by rw [List.getElem?_append_right (Nat.le_refl _), Nat.sub_self]; rfl)).2
    obtain ⟨_, _, -, -, -, z2⟩ := (hK.2 t _ ht).2
    exact Option.some.inj (z1.symm.trans z2)
  subst e
  exact kk q ok2 H1 locs ls hP1 hD1 hS1 hl
theorem ra_int {U : State} (c c' : ClassId) (h : va_RA U c .int) (h' : va_RA U c' .int) : c = c' := Option.some.inj (h.symm.trans h')
theorem ra_long {U : State} (c c' : ClassId) (h : va_RA U c .long) (h' : va_RA U c' .long) : c = c' := Option.some.inj (h.symm.trans h')
theorem ra_byte {U : State} (c c' : ClassId) (h : va_RA U c .byte) (h' : va_RA U c' .byte) : c = c' := Option.some.inj (h.symm.trans h')
theorem ra_bool {U : State} (c c' : ClassId) (h : va_RA U c .boolean) (h' : va_RA U c' .boolean) : c = c' := Option.some.inj (h.symm.trans h')
/-- a field is written; a final one in the class's own constructor -/
theorem c_put {cc : ByteArray} {own : String} {fr lo nL MC MS : Nat} {G : Wc} {A : Nat → Prop} {Γ : Cx} {ws : va_W} {ca sl pc : Nat} {L : List (Nat × Value)} {st : List Value} {ws1 : va_W} {CC : String} {T : u_T} {N ci index a : Nat} {fs : List Value} {v : Value} {ty : FieldType} (ty0 : Nat → FieldType) (kf q0 : Nat)
    (hw : Cond.fieldLink own index CC (T kf).2.1 (T kf).2.2.1 ∈ gw) (hin : ∀ w ∈ u_ws CC T N, w ∈ gw) (hty : ∀ k, k < N → parseFieldDescriptor (T k).2.2.1 = some (ty0 k)) (hnm : ∀ a, a < N → ∀ b, b < N → a ≠ b → (T a).2.1 ≠ (T b).2.1) (hc : vwCl[ci]? = some (CC, T, N)) (hkf : kf < N) (href : (T kf).1 = CC) (hfin : (T kf).2.2.2 = false ∨ ((T kf).2.2.2 = true ∧ Γ.2.1.2.2.2.1.name = "<init>" ∧ own = CC)) (hd : parseFieldDescriptor (T kf).2.2.1 = some ty)
    (hn0 : narrow ty v = v) (hfit : fits ty v = true) (he : ws[q0]? = some (a, .inr (ci, fs))) (hl0 : kf < fs.length) (hws : ws.set q0 (a, .inr (ci, fs.set kf v)) = ws1) (d : decode cc pc = .ok (.putfield index, 3))
    (kk : C cc own fr lo nL MC MS G A Γ ws1 ca sl (pc + 3) L st) : C cc own fr lo nL MC MS G A Γ ws ca sl pc L (v :: .ref a :: st) := by
  intro ok H locs ls hP hD hS hl
  have ok2 := ok
  obtain ⟨hx, hb, hml, hown, hts, hlk, hRm, hcs, hK, hNw, hL, hA, hAO⟩ := ok
  subst hws
  rcases hfin with hfin | ⟨hfin, hini, hoc⟩
  · exact va_put hx hb hts hin ty0 hty hnm hown hK hP hD hS q0 he hc kf hkf (hts _ hw) (fun x hx => by rw [← href]; exact hx) hfin hd hn0 hfit hl0 d (fun H1 locs1 hP1 hD1 hS1 => kk ok2 H1 locs1 ls hP1 hD1 hS1 hl)
  · exact va_putF hx hb hts hin ty0 hty hnm hown hK hP hD hS q0 he hc kf hkf (hts _ hw) (fun x hx => by rw [← href]; exact hx) hfin hini (by rw [href, hoc]) hd hn0 hfit hl0 d (fun H1 locs1 hP1 hD1 hS1 => kk ok2 H1 locs1 ls hP1 hD1 hS1 hl)
theorem join_last {A : Nat → Prop} {G : Wc} {W0 w1 : va_W} {q : Nat} {d : va_E} {H H1 : Heap} (hP : va_P (wD G) vwCl (W0 ++ [(q, d)]) H) (hD : va_D A (W0 ++ [(q, d)])) (hk : ∀ a : Nat, a < H.size → ¬ va_A [(q, d)] H.size a → H1[a]? = H[a]?) (hF : ∀ a, va_A [(q, d)] H.size a → A a) (hP1 : va_P (wD G) vwCl w1 H1) (hD1 : va_D (va_A [(q, d)] H.size) w1) : va_P (wD G) vwCl (W0 ++ w1) H1 ∧ va_D A (W0 ++ w1) := by
  have hl : (W0 ++ [(q, d)])[W0.length]? = some (q, d) := by rw [List.getElem?_append_right (Nat.le_refl _), Nat.sub_self]; rfl
  have left : ∀ (k : Nat) (c : Nat × va_E), W0[k]? = some c → (W0 ++ [(q, d)])[k]? = some c := fun k c hc => by
    rw [List.getElem?_append_left (List.getElem?_eq_some_iff.mp hc).1]; exact hc
  have apart : ∀ (k : Nat) (c : Nat × va_E), W0[k]? = some c → c.1 < H.size ∧ ¬ va_A [(q, d)] H.size c.1 := by
    intro k c hc
    have h1 := (hP k c (left k c hc)).lt
    refine ⟨h1, fun h => ?_⟩
    rcases h with ⟨k2, e, h⟩ | h
    · have h2 : k2 = 0 := by
        rcases k2 with _ | k2
        · rfl
        · simp at h
      subst h2
      have h3 : (q, d) = (c.1, e) := Option.some.inj h
      have h4 : q = c.1 := congrArg Prod.fst h3
      have := hD.1 k W0.length c (q, d) (left k c hc) hl h4.symm
      have := (List.getElem?_eq_some_iff.mp hc).1
      omega
    · omega
  refine ⟨va_P.app (fun k c hc => (hP k c (left k c hc)).kept (hk c.1 (apart k c hc).1 (apart k c hc).2)) hP1, va_D.app ⟨fun i j x y hi hj hxy => hD.1 i j x y (left i x hi) (left j y hj) hxy, fun k c hc => hD.2 k c (left k c hc)⟩ (hD1.weaken (fun k c _ h => hF c.1 h)) (fun i j x y hx hy hxy => (apart i x hx).2 (by rw [hxy]; exact hD1.2 j y hy))⟩
/-- 'new' has been done: the constructor is called -/
theorem c_call {cc : ByteArray} {own : String} {fr lo nL MC MS : Nat} {G : Wc} {A : Nat → Prop} {Γ : Cx} {ws : va_W} {ca sl pc : Nat} {L : List (Nat × Value)} {st : List Value} {W0 : va_W} {y : MethodName} {bytes : ByteArray} {maxL fr1 lo1 mc ms index q : Nat} {dq : va_E} {post : va_W → Prop}
    (hM : CnI y bytes maxL fr1 lo1 mc ms G q dq post) (hws : ws = W0 ++ [(q, dq)]) (hw : (Cond.methodLink own index y ∈ gw ∨ ∃ host, Cond.methodLinkNest own index y host ∈ lw_tbl) ∧ Cond.instanceMethod y ∈ gw ∧ Cond.initialized y.cls ∈ gw ∧ Cond.code y bytes maxL none ∈ gw) (hy : y.name = "<init>")
    (hd : y.cls ≠ "java/lang/invoke/MethodHandle" ∧ y.cls ≠ "java/lang/invoke/VarHandle" ∧ (parseMethodDescriptor y.desc).map (fun d => d.parameters.length) = some 0)
    (hfr : fr1 + 1 ≤ fr) (hlo : 8 + (maxL + 11) + lo1 ≤ lo) (h1 : ca + mc ≤ MC) (h2 : sl + ms ≤ MS) (hrm : (st.map fun v => v.category).sum ≤ 8) (d : decode cc pc = .ok (.invokespecial index, 3))
    (kk : ∀ w1 : va_W, post w1 → C cc own fr lo nL MC MS G A Γ (W0 ++ w1) (ca + mc) (sl + ms) (pc + 3) L st) : C cc own fr lo nL MC MS G A Γ ws ca sl pc L (.ref q :: st) := by
  intro ok H locs ls hP hD hS hl
  have ok2 := ok
  obtain ⟨hx, hb, hml, hown, hts, hlk, hRm, hcs, hK, hNw, hL, hA, hAO⟩ := ok
  subst hws
  have hMet := hM H.size
  rw [← hL] at hMet
  have hgood : GoodIn gw (Cond.code y bytes maxL none :: gw) := by
    intro w hw'
    have hmem : w ∈ gw := by
      rcases List.mem_cons.mp hw' with rfl | h
      · exact hw.2.2.2
      · exact h
    exact ⟨hmem, good_of_word (gw_good hmem)⟩
  have hFc : ∀ a, va_A [(q, dq)] H.size a → A a := by
    intro a h
    rcases h with ⟨k2, e, h⟩ | h
    · have h2 : k2 = 0 := by
        rcases k2 with _ | k2
        · rfl
        · simp at h
      subst h2
      have h3 : (q, dq) = (a, e) := Option.some.inj h
      have h4 : q = a := congrArg Prod.fst h3
      rw [← h4]
      exact hD.2 W0.length (q, dq) (by rw [List.getElem?_append_right (Nat.le_refl _), Nat.sub_self]; rfl)
    · exact hA a (Nat.le_trans hS.1 h)
  have hPq : va_P (wD G) vwCl [(q, dq)] H := fun k c hc => hP (W0.length + k) c (by rw [List.getElem?_append_right (by omega), Nat.add_sub_cancel_left]; exact hc)
  have hpre : PreS Γ.1.2.2.2.2 H (va_Pc [.ref q] (fun U => U.heap.size = H.size ∧ va_P (wD G) vwCl [(q, dq)] U.heap ∧ va_K (wD G) vwCl (wTys G) U ∧ nwAll U ∧ aoF U)) (.ref q :: []) :=
    ⟨fun a U g mk z => ⟨z.1, z.2.1, z.2.2.1, va_K.moved (Vm.Alike.refl U.vm) z.2.2.2.1, nwAll.same (u := U) rfl z.2.2.2.2.1, fun c hc => va_AO.moved (Vm.Alike.refl U.vm) (z.2.2.2.2.2 c hc)⟩, fun U hU hW => ⟨rfl, by rw [hU], by rw [hU]; exact hPq, va_K.moved hW.alike hK, nwAll.warm hW hNw, fun c hc => va_AO.moved hW.alike (hAO c hc)⟩⟩
  have hR2 : (rmC fr1 lo1 mc ms).frames + 1 ≤ Γ.1.2.2.2.1.frames ∧ 8 + (maxL + 11) + (rmC fr1 lo1 mc ms).locals ≤ Γ.1.2.2.2.1.locals := ⟨Nat.le_trans hfr hRm.1, Nat.le_trans hlo hRm.2⟩
  have hrun : va_Run Γ.1.1 Γ.1.2.1 Γ.1.2.2.1 Γ.1.2.2.2.1 Γ.1.2.2.2.2 Γ.2.1.1 Γ.2.1.2.1 Γ.2.1.2.2.1 Γ.2.1.2.2.2.1 Γ.2.1.2.2.2.2 H locs ca sl mc ms (F0 Γ.2.1.1 pc ls (.ref q :: st)) st (QI G q dq post H.size #[.ref q]) (va_A [(q, dq)] H.size) := by
    rcases hw.1 with hl1 | ⟨host, hl1⟩
    · exact va_runI (As := []) (rest := st) ⟨hx, hb, hml, hown, hts⟩ hMet (cwI 0 hts hgood rfl rfl rfl (hts _ hw.2.2.1) (hts _ hl1) (hts _ hw.2.1) hy hd hR2) hpre rfl rfl hl.1 rfl (lv_room hrm) d ⟨Nat.le_trans h1 hcs.1, Nat.le_trans h2 hcs.2⟩
    · exact va_runIN (As := []) (rest := st) ⟨hx, hb, hml, hown, hts⟩ hMet ⟨va_cnB 0 hts hgood rfl rfl rfl (hNw.1 _ hl1 rfl) (hts _ hw.2.2.1) hd hR2, hy, hts _ hw.2.1⟩ hpre rfl rfl hl.1 rfl (lv_room hrm) d ⟨Nat.le_trans h1 hcs.1, Nat.le_trans h2 hcs.2⟩
  intro T hT X
  obtain ⟨v, st₀, t, T', Ls, h0, X', hLs, e2, e3, ⟨hv, ⟨w1, hp1, hP1, hD1⟩, hF⟩, hgo⟩ := hrun T hT X
  cases hv
  have hF2 := hF
  unfold va_F at hF2
  rw [h0] at hF2
  obtain ⟨hPn, hDn⟩ := join_last (H1 := T'.heap) hP hD (fun a h1 h2 => by rw [e2]; exact hF2.2 a h1 h2) hFc (by rw [e2]; exact hP1) hD1
  have hS' : va_S A Γ.1.2.2.2.2.heap T'.heap (locs ++ Ls) := by
    refine ⟨Nat.le_trans hS.1 (by rw [e2]; exact hF2.1), fun a h1 h2 => by rw [e2, hF2.2 a (Nat.lt_of_lt_of_le h1 hS.1) (fun z => h2 (hFc a z))]; exact hS.2.1 a h1 h2, fun a ha => ?_⟩
    rcases List.mem_append.mp ha with h | h
    · exact hS.2.2 a h
    · exact hFc _ (hLs a h)
  obtain ⟨t2, a1, b1⟩ := kk w1 hp1 ok2 T'.heap (locs ++ Ls) ls hPn hDn hS' hl T' rfl X'
  exact ⟨t2, hgo t2 a1, b1⟩
theorem c_method {y : MethodName} {cc : ByteArray} {own : String} {nL fr lo mc ms : Nat} {G : Wc} {q : Nat} {dq : va_E} {post : va_W → Prop} (hy : plainName y.cls = true) (hown : y.cls = own) (hi : y.name = "<init>") (hAs : (lg_sl [.ref q]).length ≤ nL)
    (body : ∀ (A : Nat → Prop) (Γ : Cx), Γ.2.1.2.2.2.1.name = "<init>" → (∀ (ws : va_W) (pc : Nat) (L : List (Nat × Value)), post ws → decode cc pc = .ok (.return_, 1) → C cc own fr lo nL mc ms G A Γ ws mc ms pc L []) → C cc own fr lo nL mc ms G A Γ [(q, dq)] 0 0 0 [(0, .ref q)] []) : CnI y cc nL fr lo mc ms G q dq post := by
  intro sz
  refine Met.ofW (cc := cc) (maxL := nL) (ret := none) hy rfl ?_
  intro p e s m args below meth c s₁ B hml hv
  obtain ⟨rfl, rfl, hP, hK, hNw, hAO⟩ := hv
  have hts : ∀ w ∈ Cond.code y cc nL none :: gw, w.before #[.ref q] s = true := atoms_spec (ws := Cond.code y cc nL none :: gw) B.pre
  have hl := lv_entry [.ref q] hAs
  have hfc := findClass_of_methodNamed B.named
  rw [hown] at hfc
  have hname : meth.name = "<init>" := by rw [← hi]; exact (name_of_methodNamed B.named B.method).1
  have hD0 : va_D (fun _ => True) [(q, dq)] := ⟨fun i j a b h1 h2 _ => by
    rcases i with _ | i <;> rcases j with _ | j
    · rfl
    · simp at h2
    · simp at h1
    · simp at h1, fun _ _ _ => trivial⟩
  have key := body (va_A [(q, dq)] s.heap.size) ((p, wL G, e, (headSpec (Cond.code y cc nL none :: gw) (rmC fr lo mc ms)).room, s), (m, #[.ref q], below, meth, c), (0, 0, MQ below (QI G q dq post s.heap.size) #[.ref q] s mc ms (va_A [(q, dq)] s.heap.size)), fun _ => (fun _ => 0, fun _ => 0, fun _ => none, fun _ _ => 0, fun _ _ => 0, fun _ _ => none)) hname
    (fun ws pc L hp d ok H locs ls hP1 hD1 hS1 hl1 => W.vret (Qc := QI G q dq post s.heap.size) (free := va_A [(q, dq)] s.heap.size) ok.1 ok.2.1 B.returns (fun t ht _ => ⟨rfl, ⟨ws, hp, by rw [ht]; exact hP1, hD1⟩, hS1.F ht⟩) (fun z hz => hS1.2.2 z hz) d B.notSynchronized)
    ⟨B.exec, B.bytes, hml, hfc, fun w hw => hts w (List.mem_cons_of_mem _ hw), B.notSynchronized, ⟨Nat.le_refl _, Nat.le_refl _⟩, ⟨Nat.le_refl _, Nat.le_refl _⟩, hK, hNw, rfl, fun _ h => Or.inr h, hAO⟩ s.heap [] _ hP (hD0.self) va_S.rf hl
  rw [lg_entry_eq]
  exact key
