def wNames : List String := ["THING", "PERSON", "CAUGHT", "DAILY", "BED", "COMB", "STROKE", "CUT", "CATCHES", "STUFF", "DAY", "OR", "AND", "NOT", "BARE", "NEST", "SORE", "HAS", "LIKE", "KNOTS", "PAIN", "NUMBER"]
def wCodes : List Int64 := [499967946343, 123581014175598, 109270232688756, 431131028601, 6448484, 1668246882, 126943973305189, 6518132, 27973175206241651, 495875090022, 6578553, 28530, 6385252, 7237492, 1650553445, 1852142452, 1936683621, 6840691, 1818848101, 461414298739, 1885432174, 121450625394034]
def wCode (i : Nat) : Int64 := wCodes.getD i 0
def isNw : Cond → Bool
  | .fieldLinkNest _ _ _ _ _ _ => true
  | .methodLinkNest _ _ _ _ => true
  | .castable _ _ => true
  | .declares _ => true
  | _ => false
/-- the texts that the class throws with -/
def sRf (U : State) : Prop := (∃ a, vk_R RX10 128 "no such person" a U) ∧ (∃ a, vk_R RX10 157 "nothing such is told of a person" a U) ∧ (∃ a, vk_R RX10 300 "no such person or number" a U) ∧ ∃ a, vk_R RX10 302 "no knots" a U
def nwAll (U : State) : Prop := (∀ w ∈ lw_tbl, isNw w = true → va_Nw w U) ∧ sRf U
theorem nwAll.warm {s U : State} (hW : s.WarmedH U.vm) (h : nwAll s) : nwAll U := by
  obtain ⟨h0, ⟨a1, r1⟩, ⟨a2, r2⟩, ⟨a3, r3⟩, a4, r4⟩ := h
  refine ⟨?_, ⟨a1, r1.warm hW⟩, ⟨a2, r2.warm hW⟩, ⟨a3, r3.warm hW⟩, a4, r4.warm hW⟩
  intro w hw hn
  have h1 := h0 w hw hn
  cases w <;> first | (cases hn; done) | exact va_Nw.warmF hW h1 | exact va_Nw.warmM hW h1 | exact va_Nw.warmC hW h1 | exact va_Nw.warmD hW h1
theorem nwAll.same {u U : State} (hv : u.vm = U.vm) (h : nwAll u) : nwAll U := by
  obtain ⟨h0, ⟨a1, r1⟩, ⟨a2, r2⟩, ⟨a3, r3⟩, a4, r4⟩ := h
  refine ⟨?_, ⟨a1, r1.same hv.symm⟩, ⟨a2, r2.same hv.symm⟩, ⟨a3, r3.same hv.symm⟩, a4, r4.same hv.symm⟩
  intro w hw hn
  have h1 := h0 w hw hn
  cases w <;> first | (cases hn; done) | exact va_Nw.same rfl hv h1
/-- what the statics hold: Word's constants, their codes, the row of all -/
def stF (G : Wc) (U : State) (H : Heap) : Prop :=
  va_En "CombedOut$Word" "LCombedOut$Word;" wNames [] (wE G) (wF G) U H ∧ va_Ef 22 "CombedOut$Word" "code" "J" (fun i => .long (wCode i)) (wE G) (wF G) U H ∧
  (∃ tA : Nat, va_Z "CombedOut$Word" "ALL" "[LCombedOut$Word;" (.ref tA) (wF G) U H ∧ va_T (.object "CombedOut$Word") tA 22 (fun j => .ref (wE G j)) (wF G) U H) ∧
  vx_Zq Bundle.tN "UNASSIGNED_STACK" Bundle.steD (wF G) U H ∧ vx_Zq Bundle.tN "SUPPRESSED_SENTINEL" Bundle.listD (wF G) U H
theorem stF.moved {G : Wc} {u U : State} {H : Heap} (hvm : u.vm.Alike U.vm) (h : stF G u H) : stF G U H := by
  obtain ⟨h1, h2, ⟨t, h3, h4⟩, h5, h6⟩ := h
  exact ⟨h1.moved hvm, h2.moved hvm, ⟨t, h3.moved hvm, h4.moved hvm⟩, h5.moved hvm, h6.moved hvm⟩
theorem stF.kept {G : Wc} {U : State} {H H1 : Heap} (h : stF G U H) (hq : ∀ a : Nat, a < H.size → ¬ wF G a → H1[a]? = H[a]?) : stF G U H1 := by
  obtain ⟨h1, h2, ⟨t, h3, h4⟩, h5, h6⟩ := h
  exact ⟨h1.kept hq, h2.kept hq, ⟨t, h3.kept hq, h4.kept hq⟩, h5.kept hq, h6.kept hq⟩
/-- the world: every unit as h has it -/
def Wd (G : Wc) (h : Nat → Ob) (U : State) : Prop :=
  va_P (wD G) vwCl (allc G h) U.heap ∧ va_K (wD G) vwCl (wTys G) U ∧ nwAll U ∧ stF G U U.heap ∧ (∀ h' : Nat → Ob, va_D (wF G) (allc G h')) ∧ wZ G ≤ U.heap.size
def Pq (G : Wc) (r : Option Value) (h' : Nat → Ob) : Array Value → State → Outcome → State → Prop := fun _ st o t => o = .returned r ∧ Wd G h' t ∧ va_F (wF G) st t
def rmOf (fr lo : Nat) : Room := { frames := fr, cells := 0, slots := 0, locals := lo }
/-- a method's contract: from the units us (and any others) it comes back with r and the units us' -/
def Cn (y : MethodName) (cc : ByteArray) (nL : Nat) (ret : Option FieldType) (fr lo : Nat) (G : Wc) (As : List Value) (us us' : List (Nat × Ob)) (r : Option Value) : Prop :=
  nd us → ∀ h : Nat → Ob, (∀ q ∈ us, h q.1 = q.2) → Met (wL G) y (Cond.code y cc nL ret :: gw) (rmOf fr lo) (va_Pc As (Wd G h)) (Pq G r (ov h us')) 0 0 (wF G)
abbrev Cx : Type := (Program × Launch × Env × Room × State) × (MethodId × Array Value × List Frame × Method × Code) × (Nat × Nat × (State → Prop)) × (Nat → Ob)
def Ok (cc : ByteArray) (own : String) (fr lo nL : Nat) (G : Wc) (Γ : Cx) : Prop :=
  Γ.1.1.tables.exec = Jvm.exec ∧ Γ.2.1.2.2.2.2.code = cc ∧ Γ.2.1.2.2.2.2.maxLocals = nL ∧ Γ.1.2.2.2.2.vm.findClass own = some Γ.2.1.1.cls ∧ (∀ w ∈ gw, w.before Γ.2.1.2.1 Γ.1.2.2.2.2 = true) ∧
  Γ.2.1.2.2.2.1.locks = false ∧ (fr ≤ Γ.1.2.2.2.1.frames ∧ lo ≤ Γ.1.2.2.2.1.locals) ∧ (Γ.2.2.1.1 ≤ Γ.1.2.2.2.1.cells ∧ Γ.2.2.1.2.1 ≤ Γ.1.2.2.2.1.slots) ∧
  va_K (wD G) vwCl (wTys G) Γ.1.2.2.2.2 ∧ nwAll Γ.1.2.2.2.2 ∧ stF G Γ.1.2.2.2.2 Γ.1.2.2.2.2.heap ∧ (∀ h' : Nat → Ob, va_D (wF G) (allc G h')) ∧ wZ G ≤ Γ.1.2.2.2.2.heap.size ∧ Γ.1.2.1 = wL G
/-- the method stands at pc with these locals and this stack, the units as told: it comes to its end -/
def V (cc : ByteArray) (own : String) (fr lo nL : Nat) (G : Wc) (Γ : Cx) (us : List (Nat × Ob)) (pc : Nat) (L : List (Nat × Value)) (st : List Value) : Prop :=
  Ok cc own fr lo nL G Γ → nd us → ∀ (H : Heap) (locs : List Loc) (ls : Array Slot), va_P (wD G) vwCl (allc G (ov Γ.2.2.2 us)) H → va_S (wF G) Γ.1.2.2.2.2.heap H locs → lv_has ls nL L →
    W Γ.1.1 Γ.1.2.1 Γ.1.2.2.1 Γ.1.2.2.2.1 Γ.1.2.2.2.2 Γ.2.1.1 Γ.2.1.2.1 Γ.2.1.2.2.1 Γ.2.1.2.2.2.1 Γ.2.1.2.2.2.2 H locs Γ.2.2.1.1 Γ.2.2.1.2.1 Γ.2.2.1.2.2 (F0 Γ.2.1.1 pc ls st)

theorem v_iconst {cc : ByteArray} {own : String} {fr lo nL : Nat} {G : Wc} {Γ : Cx} {us : List (Nat × Ob)} {pc : Nat} {L : List (Nat × Value)} {st : List Value} {n : Int} (v : Int32) (d : decode cc pc = .ok (.iconst n, 1)) (hv : Int32.ofInt n = v) (kk : V cc own fr lo nL G Γ us (pc + 1) L (.int v :: st)) : V cc own fr lo nL G Γ us pc L st :=
  fun ok hn H locs ls hP hS hl => lv_iconst ok.1 ok.2.1 d hv (kk ok hn H locs ls hP hS hl)
theorem v_bipush {cc : ByteArray} {own : String} {fr lo nL : Nat} {G : Wc} {Γ : Cx} {us : List (Nat × Ob)} {pc : Nat} {L : List (Nat × Value)} {st : List Value} {n : Int} (v : Int32) (d : decode cc pc = .ok (.bipush n, 2)) (hv : (Int8.ofInt n).toInt32 = v) (kk : V cc own fr lo nL G Γ us (pc + 2) L (.int v :: st)) : V cc own fr lo nL G Γ us pc L st :=
  fun ok hn H locs ls hP hS hl => lv_bipush ok.1 ok.2.1 d hv (kk ok hn H locs ls hP hS hl)
theorem v_sipush {cc : ByteArray} {own : String} {fr lo nL : Nat} {G : Wc} {Γ : Cx} {us : List (Nat × Ob)} {pc : Nat} {L : List (Nat × Value)} {st : List Value} {n : Int} (v : Int32) (d : decode cc pc = .ok (.sipush n, 3)) (hv : (Int16.ofInt n).toInt32 = v) (kk : V cc own fr lo nL G Γ us (pc + 3) L (.int v :: st)) : V cc own fr lo nL G Γ us pc L st :=
  fun ok hn H locs ls hP hS hl => lv_sipush ok.1 ok.2.1 d hv (kk ok hn H locs ls hP hS hl)
theorem v_lconst {cc : ByteArray} {own : String} {fr lo nL : Nat} {G : Wc} {Γ : Cx} {us : List (Nat × Ob)} {pc : Nat} {L : List (Nat × Value)} {st : List Value} {n : Fin 2} (v : Int64) (d : decode cc pc = .ok (.lconst n, 1)) (hv : Int64.ofNat (n : Nat) = v) (kk : V cc own fr lo nL G Γ us (pc + 1) L (.long v :: st)) : V cc own fr lo nL G Γ us pc L st :=
  fun ok hn H locs ls hP hS hl => lv_lconst ok.1 ok.2.1 d hv (kk ok hn H locs ls hP hS hl)
theorem v_aconst_null {cc : ByteArray} {own : String} {fr lo nL : Nat} {G : Wc} {Γ : Cx} {us : List (Nat × Ob)} {pc : Nat} {L : List (Nat × Value)} {st : List Value}  (d : decode cc pc = .ok (.aconst_null, 1)) (kk : V cc own fr lo nL G Γ us (pc + 1) L (.null :: st)) : V cc own fr lo nL G Γ us pc L st :=
  fun ok hn H locs ls hP hS hl => lv_null ok.1 ok.2.1 d (kk ok hn H locs ls hP hS hl)
theorem v_ldc {cc : ByteArray} {own : String} {fr lo nL : Nat} {G : Wc} {Γ : Cx} {us : List (Nat × Ob)} {pc : Nat} {L : List (Nat × Value)} {st : List Value} {index : Nat} {v : Int32} (d : decode cc pc = .ok (.ldc index, 2)) (hw : Cond.constant own index v ∈ gw) (kk : V cc own fr lo nL G Γ us (pc + 2) L (.int v :: st)) : V cc own fr lo nL G Γ us pc L st :=
  fun ok hn H locs ls hP hS hl => lv_ldc ok.1 ok.2.1 ok.2.2.2.1 (ok.2.2.2.2.1 _ hw) d (kk ok hn H locs ls hP hS hl)
theorem v_ldc_w {cc : ByteArray} {own : String} {fr lo nL : Nat} {G : Wc} {Γ : Cx} {us : List (Nat × Ob)} {pc : Nat} {L : List (Nat × Value)} {st : List Value} {index : Nat} {v : Int32} (d : decode cc pc = .ok (.ldc_w index, 3)) (hw : Cond.constant own index v ∈ gw) (kk : V cc own fr lo nL G Γ us (pc + 3) L (.int v :: st)) : V cc own fr lo nL G Γ us pc L st :=
  fun ok hn H locs ls hP hS hl => lv_ldcw ok.1 ok.2.1 ok.2.2.2.1 (ok.2.2.2.2.1 _ hw) d (kk ok hn H locs ls hP hS hl)
theorem v_ldc2_w {cc : ByteArray} {own : String} {fr lo nL : Nat} {G : Wc} {Γ : Cx} {us : List (Nat × Ob)} {pc : Nat} {L : List (Nat × Value)} {st : List Value} {index : Nat} {v : Int64} (d : decode cc pc = .ok (.ldc2_w index, 3)) (hw : Cond.constantLong own index v ∈ gw) (kk : V cc own fr lo nL G Γ us (pc + 3) L (.long v :: st)) : V cc own fr lo nL G Γ us pc L st :=
  fun ok hn H locs ls hP hS hl => lv_ldc2 ok.1 ok.2.1 ok.2.2.2.1 (ok.2.2.2.2.1 _ hw) d (kk ok hn H locs ls hP hS hl)
theorem v_iload_n {cc : ByteArray} {own : String} {fr lo nL : Nat} {G : Wc} {Γ : Cx} {us : List (Nat × Ob)} {pc : Nat} {L : List (Nat × Value)} {st : List Value} {k : Fin 4} {x : Int32} (j : Nat) (d : decode cc pc = .ok (.iload_n k, 1)) (hj : L[j]? = some ((k : Nat), .int x)) (kk : V cc own fr lo nL G Γ us (pc + 1) L (.int x :: st)) : V cc own fr lo nL G Γ us pc L st :=
  fun ok hn H locs ls hP hS hl => lv_iload_n ok.1 ok.2.1 d rfl (lv_at hl j hj) (kk ok hn H locs ls hP hS hl)
theorem v_iload {cc : ByteArray} {own : String} {fr lo nL : Nat} {G : Wc} {Γ : Cx} {us : List (Nat × Ob)} {pc : Nat} {L : List (Nat × Value)} {st : List Value} {i : Nat} {x : Int32} (j : Nat) (d : decode cc pc = .ok (.iload i, 2)) (hj : L[j]? = some (i, .int x)) (kk : V cc own fr lo nL G Γ us (pc + 2) L (.int x :: st)) : V cc own fr lo nL G Γ us pc L st :=
  fun ok hn H locs ls hP hS hl => lv_iload ok.1 ok.2.1 d (lv_at hl j hj) (kk ok hn H locs ls hP hS hl)
theorem v_lload_n {cc : ByteArray} {own : String} {fr lo nL : Nat} {G : Wc} {Γ : Cx} {us : List (Nat × Ob)} {pc : Nat} {L : List (Nat × Value)} {st : List Value} {k : Fin 4} {x : Int64} (j : Nat) (d : decode cc pc = .ok (.lload_n k, 1)) (hj : L[j]? = some ((k : Nat), .long x)) (kk : V cc own fr lo nL G Γ us (pc + 1) L (.long x :: st)) : V cc own fr lo nL G Γ us pc L st :=
  fun ok hn H locs ls hP hS hl => lv_lload_n ok.1 ok.2.1 d rfl (lv_at hl j hj) (kk ok hn H locs ls hP hS hl)
theorem v_lload {cc : ByteArray} {own : String} {fr lo nL : Nat} {G : Wc} {Γ : Cx} {us : List (Nat × Ob)} {pc : Nat} {L : List (Nat × Value)} {st : List Value} {i : Nat} {x : Int64} (j : Nat) (d : decode cc pc = .ok (.lload i, 2)) (hj : L[j]? = some (i, .long x)) (kk : V cc own fr lo nL G Γ us (pc + 2) L (.long x :: st)) : V cc own fr lo nL G Γ us pc L st :=
  fun ok hn H locs ls hP hS hl => lv_lload ok.1 ok.2.1 d (lv_at hl j hj) (kk ok hn H locs ls hP hS hl)
theorem v_aload_n {cc : ByteArray} {own : String} {fr lo nL : Nat} {G : Wc} {Γ : Cx} {us : List (Nat × Ob)} {pc : Nat} {L : List (Nat × Value)} {st : List Value} {k : Fin 4} {x : Nat} (j : Nat) (d : decode cc pc = .ok (.aload_n k, 1)) (hj : L[j]? = some ((k : Nat), .ref x)) (kk : V cc own fr lo nL G Γ us (pc + 1) L (.ref x :: st)) : V cc own fr lo nL G Γ us pc L st :=
  fun ok hn H locs ls hP hS hl => lv_aload_n ok.1 ok.2.1 d rfl (lv_at hl j hj) (kk ok hn H locs ls hP hS hl)
theorem v_aload {cc : ByteArray} {own : String} {fr lo nL : Nat} {G : Wc} {Γ : Cx} {us : List (Nat × Ob)} {pc : Nat} {L : List (Nat × Value)} {st : List Value} {i : Nat} {x : Nat} (j : Nat) (d : decode cc pc = .ok (.aload i, 2)) (hj : L[j]? = some (i, .ref x)) (kk : V cc own fr lo nL G Γ us (pc + 2) L (.ref x :: st)) : V cc own fr lo nL G Γ us pc L st :=
  fun ok hn H locs ls hP hS hl => lv_aload ok.1 ok.2.1 d (lv_at hl j hj) (kk ok hn H locs ls hP hS hl)
theorem v_eload_n {cc : ByteArray} {own : String} {fr lo nL : Nat} {G : Wc} {Γ : Cx} {us : List (Nat × Ob)} {pc : Nat} {L : List (Nat × Value)} {st : List Value} {k : Fin 4} {r : Option Nat} (j : Nat) (d : decode cc pc = .ok (.aload_n k, 1)) (hj : L[j]? = some ((k : Nat), va_re (wE G) r)) (kk : V cc own fr lo nL G Γ us (pc + 1) L (va_re (wE G) r :: st)) : V cc own fr lo nL G Γ us pc L st := by
  intro ok hn H locs ls hP hS hl
  have h1 := lv_at hl j hj
  cases r with
  | none => exact lv_aload_nN ok.1 ok.2.1 d rfl h1 (kk ok hn H locs ls hP hS hl)
  | some a => exact lv_aload_n ok.1 ok.2.1 d rfl h1 (kk ok hn H locs ls hP hS hl)
theorem v_eload {cc : ByteArray} {own : String} {fr lo nL : Nat} {G : Wc} {Γ : Cx} {us : List (Nat × Ob)} {pc : Nat} {L : List (Nat × Value)} {st : List Value} {i : Nat} {r : Option Nat} (j : Nat) (d : decode cc pc = .ok (.aload i, 2)) (hj : L[j]? = some (i, va_re (wE G) r)) (kk : V cc own fr lo nL G Γ us (pc + 2) L (va_re (wE G) r :: st)) : V cc own fr lo nL G Γ us pc L st := by
  intro ok hn H locs ls hP hS hl
  have h1 := lv_at hl j hj
  cases r with
  | none => exact lv_aloadN ok.1 ok.2.1 d h1 (kk ok hn H locs ls hP hS hl)
  | some a => exact lv_aload ok.1 ok.2.1 d h1 (kk ok hn H locs ls hP hS hl)
theorem v_istore_n {cc : ByteArray} {own : String} {fr lo nL : Nat} {G : Wc} {Γ : Cx} {us : List (Nat × Ob)} {pc : Nat} {L : List (Nat × Value)} {st : List Value} {k : Fin 4} {x : Int32} (L1 : List (Nat × Value)) (d : decode cc pc = .ok (.istore_n k, 1)) (hb : (k : Nat) < nL) (hL : ((k : Nat), .int x) :: L.filter (fun q => !(q.1 == (k : Nat)) && !(q.1 + 1 == (k : Nat) && q.2.category == 2)) = L1) (kk : V cc own fr lo nL G Γ us (pc + 1) L1 st) : V cc own fr lo nL G Γ us pc L (.int x :: st) :=
  fun ok hn H locs ls hP hS hl => lv_istore_n ok.1 ok.2.1 d rfl hl hb hL (fun ls1 hl1 => kk ok hn H locs ls1 hP hS hl1)
theorem v_istore {cc : ByteArray} {own : String} {fr lo nL : Nat} {G : Wc} {Γ : Cx} {us : List (Nat × Ob)} {pc : Nat} {L : List (Nat × Value)} {st : List Value} {i : Nat} {x : Int32} (L1 : List (Nat × Value)) (d : decode cc pc = .ok (.istore i, 2)) (hb : i < nL) (hL : (i, .int x) :: L.filter (fun q => !(q.1 == i) && !(q.1 + 1 == i && q.2.category == 2)) = L1) (kk : V cc own fr lo nL G Γ us (pc + 2) L1 st) : V cc own fr lo nL G Γ us pc L (.int x :: st) :=
  fun ok hn H locs ls hP hS hl => lv_istore ok.1 ok.2.1 d hl hb hL (fun ls1 hl1 => kk ok hn H locs ls1 hP hS hl1)
theorem v_astore_n {cc : ByteArray} {own : String} {fr lo nL : Nat} {G : Wc} {Γ : Cx} {us : List (Nat × Ob)} {pc : Nat} {L : List (Nat × Value)} {st : List Value} {k : Fin 4} {x : Nat} (L1 : List (Nat × Value)) (d : decode cc pc = .ok (.astore_n k, 1)) (hb : (k : Nat) < nL) (hL : ((k : Nat), .ref x) :: L.filter (fun q => !(q.1 == (k : Nat)) && !(q.1 + 1 == (k : Nat) && q.2.category == 2)) = L1) (kk : V cc own fr lo nL G Γ us (pc + 1) L1 st) : V cc own fr lo nL G Γ us pc L (.ref x :: st) :=
  fun ok hn H locs ls hP hS hl => lv_astore_n ok.1 ok.2.1 d rfl hl hb hL (fun ls1 hl1 => kk ok hn H locs ls1 hP hS hl1)
theorem v_astore {cc : ByteArray} {own : String} {fr lo nL : Nat} {G : Wc} {Γ : Cx} {us : List (Nat × Ob)} {pc : Nat} {L : List (Nat × Value)} {st : List Value} {i : Nat} {x : Nat} (L1 : List (Nat × Value)) (d : decode cc pc = .ok (.astore i, 2)) (hb : i < nL) (hL : (i, .ref x) :: L.filter (fun q => !(q.1 == i) && !(q.1 + 1 == i && q.2.category == 2)) = L1) (kk : V cc own fr lo nL G Γ us (pc + 2) L1 st) : V cc own fr lo nL G Γ us pc L (.ref x :: st) :=
  fun ok hn H locs ls hP hS hl => lv_astore ok.1 ok.2.1 d hl hb hL (fun ls1 hl1 => kk ok hn H locs ls1 hP hS hl1)
theorem v_lstore_n {cc : ByteArray} {own : String} {fr lo nL : Nat} {G : Wc} {Γ : Cx} {us : List (Nat × Ob)} {pc : Nat} {L : List (Nat × Value)} {st : List Value} {k : Fin 4} {x : Int64} (L1 : List (Nat × Value)) (d : decode cc pc = .ok (.lstore_n k, 1)) (hb : (k : Nat) + 1 < nL) (hL : ((k : Nat), .long x) :: L.filter (fun q => !(q.1 == (k : Nat)) && (!(q.1 == (k : Nat) + 1) && !(q.1 + 1 == (k : Nat) && q.2.category == 2))) = L1) (kk : V cc own fr lo nL G Γ us (pc + 1) L1 st) : V cc own fr lo nL G Γ us pc L (.long x :: st) :=
  fun ok hn H locs ls hP hS hl => lv_lstore_n ok.1 ok.2.1 d rfl hl hb hL (fun ls1 hl1 => kk ok hn H locs ls1 hP hS hl1)
theorem v_lstore {cc : ByteArray} {own : String} {fr lo nL : Nat} {G : Wc} {Γ : Cx} {us : List (Nat × Ob)} {pc : Nat} {L : List (Nat × Value)} {st : List Value} {i : Nat} {x : Int64} (L1 : List (Nat × Value)) (d : decode cc pc = .ok (.lstore i, 2)) (hb : i + 1 < nL) (hL : (i, .long x) :: L.filter (fun q => !(q.1 == i) && (!(q.1 == i + 1) && !(q.1 + 1 == i && q.2.category == 2))) = L1) (kk : V cc own fr lo nL G Γ us (pc + 2) L1 st) : V cc own fr lo nL G Γ us pc L (.long x :: st) :=
  fun ok hn H locs ls hP hS hl => lv_lstore ok.1 ok.2.1 d hl hb hL (fun ls1 hl1 => kk ok hn H locs ls1 hP hS hl1)
theorem v_estore_n {cc : ByteArray} {own : String} {fr lo nL : Nat} {G : Wc} {Γ : Cx} {us : List (Nat × Ob)} {pc : Nat} {L : List (Nat × Value)} {st : List Value} {k : Fin 4} {r : Option Nat} (L1 : List (Nat × Value)) (d : decode cc pc = .ok (.astore_n k, 1)) (hb : (k : Nat) < nL) (hL : ((k : Nat), va_re (wE G) r) :: L.filter (fun q => !(q.1 == (k : Nat)) && !(q.1 + 1 == (k : Nat) && q.2.category == 2)) = L1) (kk : V cc own fr lo nL G Γ us (pc + 1) L1 st) : V cc own fr lo nL G Γ us pc L (va_re (wE G) r :: st) := by
  intro ok hn H locs ls hP hS hl
  cases r with
  | none => exact lv_astore_nN ok.1 ok.2.1 d rfl hl hb hL (fun ls1 hl1 => kk ok hn H locs ls1 hP hS hl1)
  | some a => exact lv_astore_n ok.1 ok.2.1 d rfl hl hb hL (fun ls1 hl1 => kk ok hn H locs ls1 hP hS hl1)
theorem v_estore {cc : ByteArray} {own : String} {fr lo nL : Nat} {G : Wc} {Γ : Cx} {us : List (Nat × Ob)} {pc : Nat} {L : List (Nat × Value)} {st : List Value} {i : Nat} {r : Option Nat} (L1 : List (Nat × Value)) (d : decode cc pc = .ok (.astore i, 2)) (hb : i < nL) (hL : (i, va_re (wE G) r) :: L.filter (fun q => !(q.1 == i) && !(q.1 + 1 == i && q.2.category == 2)) = L1) (kk : V cc own fr lo nL G Γ us (pc + 2) L1 st) : V cc own fr lo nL G Γ us pc L (va_re (wE G) r :: st) := by
  intro ok hn H locs ls hP hS hl
  cases r with
  | none => exact lv_astoreN ok.1 ok.2.1 d hl hb hL (fun ls1 hl1 => kk ok hn H locs ls1 hP hS hl1)
  | some a => exact lv_astore ok.1 ok.2.1 d hl hb hL (fun ls1 hl1 => kk ok hn H locs ls1 hP hS hl1)
theorem v_iinc {cc : ByteArray} {own : String} {fr lo nL : Nat} {G : Wc} {Γ : Cx} {us : List (Nat × Ob)} {pc : Nat} {L : List (Nat × Value)} {st : List Value} {i : Nat} {n : Int} {x : Int32} (j : Nat) (v : Int32) (L1 : List (Nat × Value)) (d : decode cc pc = .ok (.iinc i n, 3)) (hj : L[j]? = some (i, .int x)) (hv : x + Int32.ofInt n = v) (hb : i < nL) (hL : (i, Value.int v) :: L.filter (fun q => !(q.1 == i) && !(q.1 + 1 == i && q.2.category == 2)) = L1) (kk : V cc own fr lo nL G Γ us (pc + 3) L1 st) : V cc own fr lo nL G Γ us pc L st :=
  fun ok hn H locs ls hP hS hl => lv_iinc ok.1 ok.2.1 d hl hj hv hb hL (fun ls1 hl1 => kk ok hn H locs ls1 hP hS hl1)
theorem v_iadd {cc : ByteArray} {own : String} {fr lo nL : Nat} {G : Wc} {Γ : Cx} {us : List (Nat × Ob)} {pc : Nat} {L : List (Nat × Value)} {st : List Value} {x y : Int32} (d : decode cc pc = .ok (.iadd, 1)) (kk : V cc own fr lo nL G Γ us (pc + 1) L (.int (x + y) :: st)) : V cc own fr lo nL G Γ us pc L (.int y :: .int x :: st) :=
  fun ok hn H locs ls hP hS hl => lv_iadd ok.1 ok.2.1 d (kk ok hn H locs ls hP hS hl)
theorem v_isub {cc : ByteArray} {own : String} {fr lo nL : Nat} {G : Wc} {Γ : Cx} {us : List (Nat × Ob)} {pc : Nat} {L : List (Nat × Value)} {st : List Value} {x y : Int32} (d : decode cc pc = .ok (.isub, 1)) (kk : V cc own fr lo nL G Γ us (pc + 1) L (.int (x - y) :: st)) : V cc own fr lo nL G Γ us pc L (.int y :: .int x :: st) :=
  fun ok hn H locs ls hP hS hl => lv_isub ok.1 ok.2.1 d (kk ok hn H locs ls hP hS hl)
theorem v_imul {cc : ByteArray} {own : String} {fr lo nL : Nat} {G : Wc} {Γ : Cx} {us : List (Nat × Ob)} {pc : Nat} {L : List (Nat × Value)} {st : List Value} {x y : Int32} (d : decode cc pc = .ok (.imul, 1)) (kk : V cc own fr lo nL G Γ us (pc + 1) L (.int (x * y) :: st)) : V cc own fr lo nL G Γ us pc L (.int y :: .int x :: st) :=
  fun ok hn H locs ls hP hS hl => lv_imul ok.1 ok.2.1 d (kk ok hn H locs ls hP hS hl)
theorem v_iand {cc : ByteArray} {own : String} {fr lo nL : Nat} {G : Wc} {Γ : Cx} {us : List (Nat × Ob)} {pc : Nat} {L : List (Nat × Value)} {st : List Value} {x y : Int32} (d : decode cc pc = .ok (.iand, 1)) (kk : V cc own fr lo nL G Γ us (pc + 1) L (.int (x &&& y) :: st)) : V cc own fr lo nL G Γ us pc L (.int y :: .int x :: st) :=
  fun ok hn H locs ls hP hS hl => lv_iand ok.1 ok.2.1 d (kk ok hn H locs ls hP hS hl)
theorem v_ior {cc : ByteArray} {own : String} {fr lo nL : Nat} {G : Wc} {Γ : Cx} {us : List (Nat × Ob)} {pc : Nat} {L : List (Nat × Value)} {st : List Value} {x y : Int32} (d : decode cc pc = .ok (.ior, 1)) (kk : V cc own fr lo nL G Γ us (pc + 1) L (.int (x ||| y) :: st)) : V cc own fr lo nL G Γ us pc L (.int y :: .int x :: st) :=
  fun ok hn H locs ls hP hS hl => lv_ior ok.1 ok.2.1 d (kk ok hn H locs ls hP hS hl)
theorem v_ixor {cc : ByteArray} {own : String} {fr lo nL : Nat} {G : Wc} {Γ : Cx} {us : List (Nat × Ob)} {pc : Nat} {L : List (Nat × Value)} {st : List Value} {x y : Int32} (d : decode cc pc = .ok (.ixor, 1)) (kk : V cc own fr lo nL G Γ us (pc + 1) L (.int (x ^^^ y) :: st)) : V cc own fr lo nL G Γ us pc L (.int y :: .int x :: st) :=
  fun ok hn H locs ls hP hS hl => lv_ixor ok.1 ok.2.1 d (kk ok hn H locs ls hP hS hl)
theorem v_ishl {cc : ByteArray} {own : String} {fr lo nL : Nat} {G : Wc} {Γ : Cx} {us : List (Nat × Ob)} {pc : Nat} {L : List (Nat × Value)} {st : List Value} {x y : Int32} (d : decode cc pc = .ok (.ishl, 1)) (kk : V cc own fr lo nL G Γ us (pc + 1) L (.int (x <<< (y &&& 31)) :: st)) : V cc own fr lo nL G Γ us pc L (.int y :: .int x :: st) :=
  fun ok hn H locs ls hP hS hl => lv_ishl ok.1 ok.2.1 d (kk ok hn H locs ls hP hS hl)
theorem v_ishr {cc : ByteArray} {own : String} {fr lo nL : Nat} {G : Wc} {Γ : Cx} {us : List (Nat × Ob)} {pc : Nat} {L : List (Nat × Value)} {st : List Value} {x y : Int32} (d : decode cc pc = .ok (.ishr, 1)) (kk : V cc own fr lo nL G Γ us (pc + 1) L (.int (x >>> (y &&& 31)) :: st)) : V cc own fr lo nL G Γ us pc L (.int y :: .int x :: st) :=
  fun ok hn H locs ls hP hS hl => lv_ishr ok.1 ok.2.1 d (kk ok hn H locs ls hP hS hl)
theorem v_ladd {cc : ByteArray} {own : String} {fr lo nL : Nat} {G : Wc} {Γ : Cx} {us : List (Nat × Ob)} {pc : Nat} {L : List (Nat × Value)} {st : List Value} {x y : Int64} (d : decode cc pc = .ok (.ladd, 1)) (kk : V cc own fr lo nL G Γ us (pc + 1) L (.long (x + y) :: st)) : V cc own fr lo nL G Γ us pc L (.long y :: .long x :: st) :=
  fun ok hn H locs ls hP hS hl => lv_ladd ok.1 ok.2.1 d (kk ok hn H locs ls hP hS hl)
theorem v_lsub {cc : ByteArray} {own : String} {fr lo nL : Nat} {G : Wc} {Γ : Cx} {us : List (Nat × Ob)} {pc : Nat} {L : List (Nat × Value)} {st : List Value} {x y : Int64} (d : decode cc pc = .ok (.lsub, 1)) (kk : V cc own fr lo nL G Γ us (pc + 1) L (.long (x - y) :: st)) : V cc own fr lo nL G Γ us pc L (.long y :: .long x :: st) :=
  fun ok hn H locs ls hP hS hl => lv_lsub ok.1 ok.2.1 d (kk ok hn H locs ls hP hS hl)
theorem v_lmul {cc : ByteArray} {own : String} {fr lo nL : Nat} {G : Wc} {Γ : Cx} {us : List (Nat × Ob)} {pc : Nat} {L : List (Nat × Value)} {st : List Value} {x y : Int64} (d : decode cc pc = .ok (.lmul, 1)) (kk : V cc own fr lo nL G Γ us (pc + 1) L (.long (x * y) :: st)) : V cc own fr lo nL G Γ us pc L (.long y :: .long x :: st) :=
  fun ok hn H locs ls hP hS hl => lv_lmul ok.1 ok.2.1 d (kk ok hn H locs ls hP hS hl)
theorem v_land {cc : ByteArray} {own : String} {fr lo nL : Nat} {G : Wc} {Γ : Cx} {us : List (Nat × Ob)} {pc : Nat} {L : List (Nat × Value)} {st : List Value} {x y : Int64} (d : decode cc pc = .ok (.land, 1)) (kk : V cc own fr lo nL G Γ us (pc + 1) L (.long (x &&& y) :: st)) : V cc own fr lo nL G Γ us pc L (.long y :: .long x :: st) :=
  fun ok hn H locs ls hP hS hl => lv_land ok.1 ok.2.1 d (kk ok hn H locs ls hP hS hl)
theorem v_lor {cc : ByteArray} {own : String} {fr lo nL : Nat} {G : Wc} {Γ : Cx} {us : List (Nat × Ob)} {pc : Nat} {L : List (Nat × Value)} {st : List Value} {x y : Int64} (d : decode cc pc = .ok (.lor, 1)) (kk : V cc own fr lo nL G Γ us (pc + 1) L (.long (x ||| y) :: st)) : V cc own fr lo nL G Γ us pc L (.long y :: .long x :: st) :=
  fun ok hn H locs ls hP hS hl => lv_lor ok.1 ok.2.1 d (kk ok hn H locs ls hP hS hl)
theorem v_lxor {cc : ByteArray} {own : String} {fr lo nL : Nat} {G : Wc} {Γ : Cx} {us : List (Nat × Ob)} {pc : Nat} {L : List (Nat × Value)} {st : List Value} {x y : Int64} (d : decode cc pc = .ok (.lxor, 1)) (kk : V cc own fr lo nL G Γ us (pc + 1) L (.long (x ^^^ y) :: st)) : V cc own fr lo nL G Γ us pc L (.long y :: .long x :: st) :=
  fun ok hn H locs ls hP hS hl => lv_lxor ok.1 ok.2.1 d (kk ok hn H locs ls hP hS hl)
def ushr32 (x y : Int32) : Int32 := (x.toUInt32 >>> (y.toUInt32 &&& Int32.toUInt32 31)).toInt32
def ushr64 (x : Int64) (y : Int32) : Int64 := (x.toUInt64 >>> (y.toInt64.toUInt64 &&& Int64.toUInt64 63)).toInt64
theorem v_iushr {cc : ByteArray} {own : String} {fr lo nL : Nat} {G : Wc} {Γ : Cx} {us : List (Nat × Ob)} {pc : Nat} {L : List (Nat × Value)} {st : List Value} {x y : Int32} (d : decode cc pc = .ok (.iushr, 1)) (kk : V cc own fr lo nL G Γ us (pc + 1) L (.int (ushr32 x y) :: st)) : V cc own fr lo nL G Γ us pc L (.int y :: .int x :: st) :=
  fun ok hn H locs ls hP hS hl => lv_iushr ok.1 ok.2.1 d rfl (kk ok hn H locs ls hP hS hl)
theorem v_lushr {cc : ByteArray} {own : String} {fr lo nL : Nat} {G : Wc} {Γ : Cx} {us : List (Nat × Ob)} {pc : Nat} {L : List (Nat × Value)} {st : List Value} {x : Int64} {y : Int32} (d : decode cc pc = .ok (.lushr, 1)) (kk : V cc own fr lo nL G Γ us (pc + 1) L (.long (ushr64 x y) :: st)) : V cc own fr lo nL G Γ us pc L (.int y :: .long x :: st) :=
  fun ok hn H locs ls hP hS hl => lv_lushr ok.1 ok.2.1 d rfl (kk ok hn H locs ls hP hS hl)
theorem v_lshl {cc : ByteArray} {own : String} {fr lo nL : Nat} {G : Wc} {Γ : Cx} {us : List (Nat × Ob)} {pc : Nat} {L : List (Nat × Value)} {st : List Value} {x : Int64} {y : Int32} (d : decode cc pc = .ok (.lshl, 1)) (kk : V cc own fr lo nL G Γ us (pc + 1) L (.long (x <<< (y.toInt64 &&& 63)) :: st)) : V cc own fr lo nL G Γ us pc L (.int y :: .long x :: st) :=
  fun ok hn H locs ls hP hS hl => lv_lshl ok.1 ok.2.1 d rfl (kk ok hn H locs ls hP hS hl)
theorem v_lshr {cc : ByteArray} {own : String} {fr lo nL : Nat} {G : Wc} {Γ : Cx} {us : List (Nat × Ob)} {pc : Nat} {L : List (Nat × Value)} {st : List Value} {x : Int64} {y : Int32} (d : decode cc pc = .ok (.lshr, 1)) (kk : V cc own fr lo nL G Γ us (pc + 1) L (.long (x >>> (y.toInt64 &&& 63)) :: st)) : V cc own fr lo nL G Γ us pc L (.int y :: .long x :: st) :=
  fun ok hn H locs ls hP hS hl => lv_lshr ok.1 ok.2.1 d rfl (kk ok hn H locs ls hP hS hl)
theorem v_idiv {cc : ByteArray} {own : String} {fr lo nL : Nat} {G : Wc} {Γ : Cx} {us : List (Nat × Ob)} {pc : Nat} {L : List (Nat × Value)} {st : List Value} {x y : Int32} (d : decode cc pc = .ok (.idiv, 1)) (h0 : ¬ y = 0) (kk : V cc own fr lo nL G Γ us (pc + 1) L (.int (x / y) :: st)) : V cc own fr lo nL G Γ us pc L (.int y :: .int x :: st) :=
  fun ok hn H locs ls hP hS hl => lv_idiv ok.1 ok.2.1 d h0 (kk ok hn H locs ls hP hS hl)
theorem v_irem {cc : ByteArray} {own : String} {fr lo nL : Nat} {G : Wc} {Γ : Cx} {us : List (Nat × Ob)} {pc : Nat} {L : List (Nat × Value)} {st : List Value} {x y : Int32} (d : decode cc pc = .ok (.irem, 1)) (h0 : ¬ y = 0) (kk : V cc own fr lo nL G Γ us (pc + 1) L (.int (x - x / y * y) :: st)) : V cc own fr lo nL G Γ us pc L (.int y :: .int x :: st) :=
  fun ok hn H locs ls hP hS hl => lv_irem ok.1 ok.2.1 d h0 (kk ok hn H locs ls hP hS hl)
theorem v_i2l {cc : ByteArray} {own : String} {fr lo nL : Nat} {G : Wc} {Γ : Cx} {us : List (Nat × Ob)} {pc : Nat} {L : List (Nat × Value)} {st : List Value} {x : Int32} (d : decode cc pc = .ok (.i2l, 1)) (kk : V cc own fr lo nL G Γ us (pc + 1) L (.long x.toInt64 :: st)) : V cc own fr lo nL G Γ us pc L (.int x :: st) :=
  fun ok hn H locs ls hP hS hl => lv_i2l ok.1 ok.2.1 d rfl (kk ok hn H locs ls hP hS hl)
theorem v_l2i {cc : ByteArray} {own : String} {fr lo nL : Nat} {G : Wc} {Γ : Cx} {us : List (Nat × Ob)} {pc : Nat} {L : List (Nat × Value)} {st : List Value} {x : Int64} (d : decode cc pc = .ok (.l2i, 1)) (kk : V cc own fr lo nL G Γ us (pc + 1) L (.int x.toInt32 :: st)) : V cc own fr lo nL G Γ us pc L (.long x :: st) :=
  fun ok hn H locs ls hP hS hl => lv_l2i ok.1 ok.2.1 d rfl (kk ok hn H locs ls hP hS hl)
theorem v_i2b {cc : ByteArray} {own : String} {fr lo nL : Nat} {G : Wc} {Γ : Cx} {us : List (Nat × Ob)} {pc : Nat} {L : List (Nat × Value)} {st : List Value} {x : Int32} (d : decode cc pc = .ok (.i2b, 1)) (kk : V cc own fr lo nL G Γ us (pc + 1) L (.int x.toInt8.toInt32 :: st)) : V cc own fr lo nL G Γ us pc L (.int x :: st) :=
  fun ok hn H locs ls hP hS hl => lv_i2b ok.1 ok.2.1 d rfl (kk ok hn H locs ls hP hS hl)
theorem v_dup {cc : ByteArray} {own : String} {fr lo nL : Nat} {G : Wc} {Γ : Cx} {us : List (Nat × Ob)} {pc : Nat} {L : List (Nat × Value)} {st : List Value} {a : Value} (d : decode cc pc = .ok (.dup, 1)) (ha : a.category = 1) (kk : V cc own fr lo nL G Γ us (pc + 1) L (a :: a :: st)) : V cc own fr lo nL G Γ us pc L (a :: st) :=
  fun ok hn H locs ls hP hS hl => lv_dup ok.1 ok.2.1 d ha (kk ok hn H locs ls hP hS hl)
theorem v_pop {cc : ByteArray} {own : String} {fr lo nL : Nat} {G : Wc} {Γ : Cx} {us : List (Nat × Ob)} {pc : Nat} {L : List (Nat × Value)} {st : List Value} {a : Value} (d : decode cc pc = .ok (.pop, 1)) (ha : a.category = 1) (kk : V cc own fr lo nL G Γ us (pc + 1) L st) : V cc own fr lo nL G Γ us pc L (a :: st) :=
  fun ok hn H locs ls hP hS hl => lv_pop ok.1 ok.2.1 d ha (kk ok hn H locs ls hP hS hl)
theorem v_dup_x1 {cc : ByteArray} {own : String} {fr lo nL : Nat} {G : Wc} {Γ : Cx} {us : List (Nat × Ob)} {pc : Nat} {L : List (Nat × Value)} {st : List Value} {a b : Value} (d : decode cc pc = .ok (.dup_x1, 1)) (ha : a.category = 1) (hb : b.category = 1) (kk : V cc own fr lo nL G Γ us (pc + 1) L (a :: b :: a :: st)) : V cc own fr lo nL G Γ us pc L (a :: b :: st) :=
  fun ok hn H locs ls hP hS hl => lv_dup_x1 ok.1 ok.2.1 d ha hb (kk ok hn H locs ls hP hS hl)
theorem v_dup2 {cc : ByteArray} {own : String} {fr lo nL : Nat} {G : Wc} {Γ : Cx} {us : List (Nat × Ob)} {pc : Nat} {L : List (Nat × Value)} {st : List Value} {a b : Value} (d : decode cc pc = .ok (.dup2, 1)) (ha : a.category = 1) (hb : b.category = 1) (kk : V cc own fr lo nL G Γ us (pc + 1) L (a :: b :: a :: b :: st)) : V cc own fr lo nL G Γ us pc L (a :: b :: st) :=
  fun ok hn H locs ls hP hS hl => lv_dup2_11 ok.1 ok.2.1 d ha hb (kk ok hn H locs ls hP hS hl)
theorem v_if_eq {cc : ByteArray} {own : String} {fr lo nL : Nat} {G : Wc} {Γ : Cx} {us : List (Nat × Ob)} {pc : Nat} {L : List (Nat × Value)} {st : List Value} {x : Int32} {off : Int} (tgt : Nat) (d : decode cc pc = .ok (.ifCond .eq off, 3)) (ht : (pc : Int) + off = (tgt : Int)) (kt : x = 0 → V cc own fr lo nL G Γ us tgt L st) (kf : ¬ x = 0 → V cc own fr lo nL G Γ us (pc + 3) L st) : V cc own fr lo nL G Γ us pc L (.int x :: st) :=
  fun ok hn H locs ls hP hS hl => lv_if_eq ok.1 ok.2.1 d ht (fun c => kt c ok hn H locs ls hP hS hl) (fun c => kf c ok hn H locs ls hP hS hl)
theorem v_if_ne {cc : ByteArray} {own : String} {fr lo nL : Nat} {G : Wc} {Γ : Cx} {us : List (Nat × Ob)} {pc : Nat} {L : List (Nat × Value)} {st : List Value} {x : Int32} {off : Int} (tgt : Nat) (d : decode cc pc = .ok (.ifCond .ne off, 3)) (ht : (pc : Int) + off = (tgt : Int)) (kt : ¬ x = 0 → V cc own fr lo nL G Γ us tgt L st) (kf : x = 0 → V cc own fr lo nL G Γ us (pc + 3) L st) : V cc own fr lo nL G Γ us pc L (.int x :: st) :=
  fun ok hn H locs ls hP hS hl => lv_if_ne ok.1 ok.2.1 d ht (fun c => kt c ok hn H locs ls hP hS hl) (fun c => kf c ok hn H locs ls hP hS hl)
theorem v_if_lt {cc : ByteArray} {own : String} {fr lo nL : Nat} {G : Wc} {Γ : Cx} {us : List (Nat × Ob)} {pc : Nat} {L : List (Nat × Value)} {st : List Value} {x : Int32} {off : Int} (tgt : Nat) (d : decode cc pc = .ok (.ifCond .lt off, 3)) (ht : (pc : Int) + off = (tgt : Int)) (kt : x < 0 → V cc own fr lo nL G Γ us tgt L st) (kf : ¬ x < 0 → V cc own fr lo nL G Γ us (pc + 3) L st) : V cc own fr lo nL G Γ us pc L (.int x :: st) :=
  fun ok hn H locs ls hP hS hl => lv_if_lt ok.1 ok.2.1 d ht (fun c => kt c ok hn H locs ls hP hS hl) (fun c => kf c ok hn H locs ls hP hS hl)
theorem v_if_ge {cc : ByteArray} {own : String} {fr lo nL : Nat} {G : Wc} {Γ : Cx} {us : List (Nat × Ob)} {pc : Nat} {L : List (Nat × Value)} {st : List Value} {x : Int32} {off : Int} (tgt : Nat) (d : decode cc pc = .ok (.ifCond .ge off, 3)) (ht : (pc : Int) + off = (tgt : Int)) (kt : 0 ≤ x → V cc own fr lo nL G Γ us tgt L st) (kf : ¬ 0 ≤ x → V cc own fr lo nL G Γ us (pc + 3) L st) : V cc own fr lo nL G Γ us pc L (.int x :: st) :=
  fun ok hn H locs ls hP hS hl => lv_if_ge ok.1 ok.2.1 d ht (fun c => kt c ok hn H locs ls hP hS hl) (fun c => kf c ok hn H locs ls hP hS hl)
theorem v_if_gt {cc : ByteArray} {own : String} {fr lo nL : Nat} {G : Wc} {Γ : Cx} {us : List (Nat × Ob)} {pc : Nat} {L : List (Nat × Value)} {st : List Value} {x : Int32} {off : Int} (tgt : Nat) (d : decode cc pc = .ok (.ifCond .gt off, 3)) (ht : (pc : Int) + off = (tgt : Int)) (kt : 0 < x → V cc own fr lo nL G Γ us tgt L st) (kf : ¬ 0 < x → V cc own fr lo nL G Γ us (pc + 3) L st) : V cc own fr lo nL G Γ us pc L (.int x :: st) :=
  fun ok hn H locs ls hP hS hl => lv_if_gt ok.1 ok.2.1 d ht (fun c => kt c ok hn H locs ls hP hS hl) (fun c => kf c ok hn H locs ls hP hS hl)
theorem v_if_le {cc : ByteArray} {own : String} {fr lo nL : Nat} {G : Wc} {Γ : Cx} {us : List (Nat × Ob)} {pc : Nat} {L : List (Nat × Value)} {st : List Value} {x : Int32} {off : Int} (tgt : Nat) (d : decode cc pc = .ok (.ifCond .le off, 3)) (ht : (pc : Int) + off = (tgt : Int)) (kt : x ≤ 0 → V cc own fr lo nL G Γ us tgt L st) (kf : ¬ x ≤ 0 → V cc own fr lo nL G Γ us (pc + 3) L st) : V cc own fr lo nL G Γ us pc L (.int x :: st) :=
  fun ok hn H locs ls hP hS hl => lv_if_le ok.1 ok.2.1 d ht (fun c => kt c ok hn H locs ls hP hS hl) (fun c => kf c ok hn H locs ls hP hS hl)
theorem v_icmp_eq {cc : ByteArray} {own : String} {fr lo nL : Nat} {G : Wc} {Γ : Cx} {us : List (Nat × Ob)} {pc : Nat} {L : List (Nat × Value)} {st : List Value} {x y : Int32} {off : Int} (tgt : Nat) (d : decode cc pc = .ok (.if_icmp .eq off, 3)) (ht : (pc : Int) + off = (tgt : Int)) (kt : x = y → V cc own fr lo nL G Γ us tgt L st) (kf : ¬ x = y → V cc own fr lo nL G Γ us (pc + 3) L st) : V cc own fr lo nL G Γ us pc L (.int y :: .int x :: st) :=
  fun ok hn H locs ls hP hS hl => lv_icmp_eq ok.1 ok.2.1 d ht (fun c => kt c ok hn H locs ls hP hS hl) (fun c => kf c ok hn H locs ls hP hS hl)
theorem v_icmp_ne {cc : ByteArray} {own : String} {fr lo nL : Nat} {G : Wc} {Γ : Cx} {us : List (Nat × Ob)} {pc : Nat} {L : List (Nat × Value)} {st : List Value} {x y : Int32} {off : Int} (tgt : Nat) (d : decode cc pc = .ok (.if_icmp .ne off, 3)) (ht : (pc : Int) + off = (tgt : Int)) (kt : ¬ x = y → V cc own fr lo nL G Γ us tgt L st) (kf : x = y → V cc own fr lo nL G Γ us (pc + 3) L st) : V cc own fr lo nL G Γ us pc L (.int y :: .int x :: st) :=
  fun ok hn H locs ls hP hS hl => lv_icmp_ne ok.1 ok.2.1 d ht (fun c => kt c ok hn H locs ls hP hS hl) (fun c => kf c ok hn H locs ls hP hS hl)
theorem v_icmp_lt {cc : ByteArray} {own : String} {fr lo nL : Nat} {G : Wc} {Γ : Cx} {us : List (Nat × Ob)} {pc : Nat} {L : List (Nat × Value)} {st : List Value} {x y : Int32} {off : Int} (tgt : Nat) (d : decode cc pc = .ok (.if_icmp .lt off, 3)) (ht : (pc : Int) + off = (tgt : Int)) (kt : x < y → V cc own fr lo nL G Γ us tgt L st) (kf : ¬ x < y → V cc own fr lo nL G Γ us (pc + 3) L st) : V cc own fr lo nL G Γ us pc L (.int y :: .int x :: st) :=
  fun ok hn H locs ls hP hS hl => lv_icmp_lt ok.1 ok.2.1 d ht (fun c => kt c ok hn H locs ls hP hS hl) (fun c => kf c ok hn H locs ls hP hS hl)
theorem v_icmp_ge {cc : ByteArray} {own : String} {fr lo nL : Nat} {G : Wc} {Γ : Cx} {us : List (Nat × Ob)} {pc : Nat} {L : List (Nat × Value)} {st : List Value} {x y : Int32} {off : Int} (tgt : Nat) (d : decode cc pc = .ok (.if_icmp .ge off, 3)) (ht : (pc : Int) + off = (tgt : Int)) (kt : y ≤ x → V cc own fr lo nL G Γ us tgt L st) (kf : ¬ y ≤ x → V cc own fr lo nL G Γ us (pc + 3) L st) : V cc own fr lo nL G Γ us pc L (.int y :: .int x :: st) :=
  fun ok hn H locs ls hP hS hl => lv_icmp_ge ok.1 ok.2.1 d ht (fun c => kt c ok hn H locs ls hP hS hl) (fun c => kf c ok hn H locs ls hP hS hl)
theorem v_icmp_gt {cc : ByteArray} {own : String} {fr lo nL : Nat} {G : Wc} {Γ : Cx} {us : List (Nat × Ob)} {pc : Nat} {L : List (Nat × Value)} {st : List Value} {x y : Int32} {off : Int} (tgt : Nat) (d : decode cc pc = .ok (.if_icmp .gt off, 3)) (ht : (pc : Int) + off = (tgt : Int)) (kt : y < x → V cc own fr lo nL G Γ us tgt L st) (kf : ¬ y < x → V cc own fr lo nL G Γ us (pc + 3) L st) : V cc own fr lo nL G Γ us pc L (.int y :: .int x :: st) :=
  fun ok hn H locs ls hP hS hl => lv_icmp_gt ok.1 ok.2.1 d ht (fun c => kt c ok hn H locs ls hP hS hl) (fun c => kf c ok hn H locs ls hP hS hl)
theorem v_icmp_le {cc : ByteArray} {own : String} {fr lo nL : Nat} {G : Wc} {Γ : Cx} {us : List (Nat × Ob)} {pc : Nat} {L : List (Nat × Value)} {st : List Value} {x y : Int32} {off : Int} (tgt : Nat) (d : decode cc pc = .ok (.if_icmp .le off, 3)) (ht : (pc : Int) + off = (tgt : Int)) (kt : x ≤ y → V cc own fr lo nL G Γ us tgt L st) (kf : ¬ x ≤ y → V cc own fr lo nL G Γ us (pc + 3) L st) : V cc own fr lo nL G Γ us pc L (.int y :: .int x :: st) :=
  fun ok hn H locs ls hP hS hl => lv_icmp_le ok.1 ok.2.1 d ht (fun c => kt c ok hn H locs ls hP hS hl) (fun c => kf c ok hn H locs ls hP hS hl)
theorem v_goto {cc : ByteArray} {own : String} {fr lo nL : Nat} {G : Wc} {Γ : Cx} {us : List (Nat × Ob)} {pc : Nat} {L : List (Nat × Value)} {st : List Value} {off : Int} (tgt : Nat) (d : decode cc pc = .ok (.goto off, 3)) (ht : (pc : Int) + off = (tgt : Int)) (kk : V cc own fr lo nL G Γ us tgt L st) : V cc own fr lo nL G Γ us pc L st :=
  fun ok hn H locs ls hP hS hl => lv_goto ok.1 ok.2.1 d ht (kk ok hn H locs ls hP hS hl)
