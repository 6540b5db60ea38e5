theorem V_sub {cc : ByteArray} {own : String} {fr lo nL : Nat} {G : Wc} {Γ : Cx} {us : List (Nat × Ob)} {pc : Nat} {L : List (Nat × Value)} {st : List Value} {L1 : List (Nat × Value)} (ks : List Nat) (h : lv_pick L ks = L1) (kk : V cc own fr lo nL G Γ us pc L1 st) : V cc own fr lo nL G Γ us pc L st :=
  fun ok hn H locs ls hP hS hl => kk ok hn H locs ls hP hS (lv_sub hl ks h)
theorem v_lcmp {cc : ByteArray} {own : String} {fr lo nL : Nat} {G : Wc} {Γ : Cx} {us : List (Nat × Ob)} {pc : Nat} {L : List (Nat × Value)} {st : List Value} {x y : Int64} (d : decode cc pc = .ok (.lcmp, 1)) (kk : V cc own fr lo nL G Γ us (pc + 1) L (.int (lg_cmp x y) :: st)) : V cc own fr lo nL G Γ us pc L (.long y :: .long x :: st) :=
  fun ok hn H locs ls hP hS hl => W.lcmp ok.1 ok.2.1 d (kk ok hn H locs ls hP hS hl)
def wOk (r : Option Nat) : Bool := match r with
  | none => true
  | some i => decide (i < 22)
theorem wOk_inj {G : Wc} {U : State} {H : Heap} (h : stF G U H) {x y : Option Nat} (hx : wOk x = true) (hy : wOk y = true) (e : x.map (wE G) = y.map (wE G)) : x = y := by
  cases x with
  | none =>
    cases y with
    | none => rfl
    | some j => cases e
  | some i =>
    cases y with
    | none => cases e
    | some j => rw [h.1.2 i j (of_decide_eq_true hx) (of_decide_eq_true hy) (Option.some.inj e)]
theorem v_acmp_eq {cc : ByteArray} {own : String} {fr lo nL : Nat} {G : Wc} {Γ : Cx} {us : List (Nat × Ob)} {pc : Nat} {L : List (Nat × Value)} {st : List Value} {x y : Option Nat} {off : Int} (gx : wOk x = true) (gy : wOk y = true) (tgt : Nat) (d : decode cc pc = .ok (.if_acmp .eq off, 3)) (ht : (pc : Int) + off = (tgt : Int)) (kt : x = y → V cc own fr lo nL G Γ us tgt L st) (kf : ¬ x = y → V cc own fr lo nL G Γ us (pc + 3) L st) : V cc own fr lo nL G Γ us pc L (va_re (wE G) y :: va_re (wE G) x :: st) :=
  fun ok hn H locs ls hP hS hl => lv_acmp_eq ok.1 ok.2.1 d ht (fun c => kt (wOk_inj ok.2.2.2.2.2.2.2.2.2.2.1 gx gy c) ok hn H locs ls hP hS hl) (fun c => kf (fun e => c (by rw [e])) ok hn H locs ls hP hS hl)
theorem v_acmp_ne {cc : ByteArray} {own : String} {fr lo nL : Nat} {G : Wc} {Γ : Cx} {us : List (Nat × Ob)} {pc : Nat} {L : List (Nat × Value)} {st : List Value} {x y : Option Nat} {off : Int} (gx : wOk x = true) (gy : wOk y = true) (tgt : Nat) (d : decode cc pc = .ok (.if_acmp .ne off, 3)) (ht : (pc : Int) + off = (tgt : Int)) (kt : ¬ x = y → V cc own fr lo nL G Γ us tgt L st) (kf : x = y → V cc own fr lo nL G Γ us (pc + 3) L st) : V cc own fr lo nL G Γ us pc L (va_re (wE G) y :: va_re (wE G) x :: st) :=
  fun ok hn H locs ls hP hS hl => lv_acmp_ne ok.1 ok.2.1 d ht (fun c => kt (fun e => c (by rw [e])) ok hn H locs ls hP hS hl) (fun c => kf (wOk_inj ok.2.2.2.2.2.2.2.2.2.2.1 gx gy c) ok hn H locs ls hP hS hl)
theorem v_ifnull {cc : ByteArray} {own : String} {fr lo nL : Nat} {G : Wc} {Γ : Cx} {us : List (Nat × Ob)} {pc : Nat} {L : List (Nat × Value)} {st : List Value} {x : Option Nat} {off : Int} (tgt : Nat) (d : decode cc pc = .ok (.ifnull off, 3)) (ht : (pc : Int) + off = (tgt : Int)) (kt : x = none → V cc own fr lo nL G Γ us tgt L st) (kf : ¬ x = none → V cc own fr lo nL G Γ us (pc + 3) L st) : V cc own fr lo nL G Γ us pc L (va_re (wE G) x :: st) := by
  intro ok hn H locs ls hP hS hl
  cases x with
  | none => exact lv_ifnullN ok.1 ok.2.1 d ht (kt rfl ok hn H locs ls hP hS hl)
  | some a => exact lv_ifnull ok.1 ok.2.1 d (kf (fun e => by cases e) ok hn H locs ls hP hS hl)
theorem v_ifnonnull {cc : ByteArray} {own : String} {fr lo nL : Nat} {G : Wc} {Γ : Cx} {us : List (Nat × Ob)} {pc : Nat} {L : List (Nat × Value)} {st : List Value} {x : Option Nat} {off : Int} (tgt : Nat) (d : decode cc pc = .ok (.ifnonnull off, 3)) (ht : (pc : Int) + off = (tgt : Int)) (kt : ¬ x = none → V cc own fr lo nL G Γ us tgt L st) (kf : x = none → V cc own fr lo nL G Γ us (pc + 3) L st) : V cc own fr lo nL G Γ us pc L (va_re (wE G) x :: st) := by
  intro ok hn H locs ls hP hS hl
  cases x with
  | none => exact lv_ifnonnullN ok.1 ok.2.1 d (kf rfl ok hn H locs ls hP hS hl)
  | some a => exact lv_ifnonnull ok.1 ok.2.1 d ht (kt (fun e => by cases e) ok hn H locs ls hP hS hl)
theorem v_ifnonnullU {cc : ByteArray} {own : String} {fr lo nL : Nat} {G : Wc} {Γ : Cx} {us : List (Nat × Ob)} {pc : Nat} {L : List (Nat × Value)} {st : List Value} {x : Nat} {off : Int} (tgt : Nat) (d : decode cc pc = .ok (.ifnonnull off, 3)) (ht : (pc : Int) + off = (tgt : Int)) (kt : V cc own fr lo nL G Γ us tgt L st) : V cc own fr lo nL G Γ us pc L (.ref x :: st) :=
  fun ok hn H locs ls hP hS hl => lv_ifnonnull ok.1 ok.2.1 d ht (kt ok hn H locs ls hP hS hl)
theorem v_ifnullU {cc : ByteArray} {own : String} {fr lo nL : Nat} {G : Wc} {Γ : Cx} {us : List (Nat × Ob)} {pc : Nat} {L : List (Nat × Value)} {st : List Value} {x : Nat} {off : Int} (d : decode cc pc = .ok (.ifnull off, 3)) (kf : V cc own fr lo nL G Γ us (pc + 3) L st) : V cc own fr lo nL G Γ us pc L (.ref x :: st) :=
  fun ok hn H locs ls hP hS hl => lv_ifnull ok.1 ok.2.1 d (kf ok hn H locs ls hP hS hl)
theorem v_aconst_nullE {cc : ByteArray} {own : String} {fr lo nL : Nat} {G : Wc} {Γ : Cx} {us : List (Nat × Ob)} {pc : Nat} {L : List (Nat × Value)} {st : List Value} (d : decode cc pc = .ok (.aconst_null, 1)) (kk : V cc own fr lo nL G Γ us (pc + 1) L (va_re (wE G) none :: st)) : V cc own fr lo nL G Γ us pc L st :=
  fun ok hn H locs ls hP hS hl => lv_null ok.1 ok.2.1 d (kk ok hn H locs ls hP hS hl)
theorem v_tsIn {cc : ByteArray} {own : String} {fr lo nL : Nat} {G : Wc} {Γ : Cx} {us : List (Nat × Ob)} {pc : Nat} {L : List (Nat × Value)} {st : List Value} {dflt lo0 hi0 : Int} {offs : Array Int} {len : Nat} {x : Int32} {off : Int} (k : Int32) (tgt : Nat) (d : decode cc pc = .ok (.tableswitch dflt lo0 hi0 offs, len)) (hx : x = k) (h1 : ¬ k.toInt < lo0) (h2 : ¬ hi0 < k.toInt) (ho : offs[(k.toInt - lo0).toNat]? = some off) (ht : (pc : Int) + off = (tgt : Int)) (kk : V cc own fr lo nL G Γ us tgt L st) : V cc own fr lo nL G Γ us pc L (.int x :: st) := by
  subst hx
  exact fun ok hn H locs ls hP hS hl => lv_tableIn ok.1 ok.2.1 d h1 h2 ho ht (kk ok hn H locs ls hP hS hl)
theorem v_tsOut {cc : ByteArray} {own : String} {fr lo nL : Nat} {G : Wc} {Γ : Cx} {us : List (Nat × Ob)} {pc : Nat} {L : List (Nat × Value)} {st : List Value} {dflt lo0 hi0 : Int} {offs : Array Int} {len : Nat} {x : Int32} (tgt : Nat) (d : decode cc pc = .ok (.tableswitch dflt lo0 hi0 offs, len)) (n : Nat) (h : ∀ k : Nat, k < n → ¬ x = Int32.ofNat k) (h0 : lo0 = 0) (hn0 : hi0 = (n : Int) - 1) (ht : (pc : Int) + dflt = (tgt : Int)) (kk : V cc own fr lo nL G Γ us tgt L st) : V cc own fr lo nL G Γ us pc L (.int x :: st) := by
  intro ok hn H locs ls hP hS hl
  refine lv_tableOut ok.1 ok.2.1 d ?_ ht (kk ok hn H locs ls hP hS hl)
  subst h0
  by_cases q : x.toInt < 0
  · exact Or.inl q
  · right
    apply Int.lt_of_not_ge
    intro hle
    have hk : x.toInt.toNat < n := by omega
    refine h x.toInt.toNat hk ?_
    apply Int32.toInt_inj.mp
    have hm : x.toInt < 2 ^ 31 := x.toInt_lt
    rw [Int32.toInt_ofNat_of_lt (by omega)]
    omega
theorem v_mmin {cc : ByteArray} {own : String} {fr lo nL : Nat} {G : Wc} {Γ : Cx} {us : List (Nat × Ob)} {pc : Nat} {L : List (Nat × Value)} {st : List Value} {index : Nat} {x y : Int32} (hw : Cond.methodLink own index Lib.Math.min.name ∈ gw ∧ Cond.static Lib.Math.min.name ∈ gw ∧ Cond.initialized "java/lang/Math" ∈ gw ∧ Cond.code Lib.Math.min.name Lib.Math.min.code 2 (some .int) ∈ gw) (hfr : 1 ≤ fr) (hlo : 40 ≤ lo) (hrm : (st.map fun v => v.category).sum ≤ 8) (d : decode cc pc = .ok (.invokestatic index, 3)) (kk : V cc own fr lo nL G Γ us (pc + 3) L (.int (if y < x then y else x) :: st)) : V cc own fr lo nL G Γ us pc L (.int y :: .int x :: st) :=
  fun ok hn H locs ls hP hS hl => va_mmin ok.1 ok.2.1 (by rw [hl.1]; exact ok.2.2.1) ok.2.2.2.1 (ok.2.2.2.2.1 _ hw.1) (ok.2.2.2.2.1 _ hw.2.1) (ok.2.2.2.2.1 _ hw.2.2.1) (ok.2.2.2.2.1 _ hw.2.2.2) (Nat.le_trans hfr ok.2.2.2.2.2.2.1.1) (Nat.le_trans (by omega) (Nat.le_trans hlo ok.2.2.2.2.2.2.1.2)) ok.2.2.2.2.2.2.2.1.1 ok.2.2.2.2.2.2.2.1.2 d (kk ok hn H locs ls hP hS hl)
theorem v_mmax {cc : ByteArray} {own : String} {fr lo nL : Nat} {G : Wc} {Γ : Cx} {us : List (Nat × Ob)} {pc : Nat} {L : List (Nat × Value)} {st : List Value} {index : Nat} {x y : Int32} (hw : Cond.methodLink own index Lib.Math.max.name ∈ gw ∧ Cond.static Lib.Math.max.name ∈ gw ∧ Cond.initialized "java/lang/Math" ∈ gw ∧ Cond.code Lib.Math.max.name Lib.Math.max.code 2 (some .int) ∈ gw) (hfr : 1 ≤ fr) (hlo : 40 ≤ lo) (hrm : (st.map fun v => v.category).sum ≤ 8) (d : decode cc pc = .ok (.invokestatic index, 3)) (kk : V cc own fr lo nL G Γ us (pc + 3) L (.int (if x < y then y else x) :: st)) : V cc own fr lo nL G Γ us pc L (.int y :: .int x :: st) :=
  fun ok hn H locs ls hP hS hl => va_mmax ok.1 ok.2.1 (by rw [hl.1]; exact ok.2.2.1) ok.2.2.2.1 (ok.2.2.2.2.1 _ hw.1) (ok.2.2.2.2.1 _ hw.2.1) (ok.2.2.2.2.1 _ hw.2.2.1) (ok.2.2.2.2.1 _ hw.2.2.2) (Nat.le_trans hfr ok.2.2.2.2.2.2.1.1) (Nat.le_trans (by omega) (Nat.le_trans hlo ok.2.2.2.2.2.2.1.2)) ok.2.2.2.2.2.2.2.1.1 ok.2.2.2.2.2.2.2.1.2 d (kk ok hn H locs ls hP hS hl)
theorem V_eret {cc : ByteArray} {own : String} {fr lo nL : Nat} {G : Wc} {Γ : Cx} {us : List (Nat × Ob)} {pc : Nat} {L : List (Nat × Value)} {v : Option Nat} {n : String} (hf : Fnl G Γ (some (.object n)) (some (va_re (wE G) v)) (ov Γ.2.2.2 us)) (d : decode cc pc = .ok (.areturn, 1)) : V cc own fr lo nL G Γ us pc L [va_re (wE G) v] := by
  intro ok hn H locs ls hP hS hl
  obtain ⟨h1, h2⟩ := hf
  rw [h2]
  exact W.aret ok.1 ok.2.1 h1 (Or.inl ⟨_, rfl⟩) (va_re_or _ _) (fin_post ok hP hS) (fun q hq => hS.2.2 q hq) d ok.2.2.2.2.2.1
theorem V_wast {cc : ByteArray} {own : String} {fr lo nL : Nat} {G : Wc} {Γ : Cx} {us : List (Nat × Ob)} {pc : Nat} {L : List (Nat × Value)} {st : List Value} {us1 : List (Nat × Ob)} {u k n a : Nat} {S S1 : Ob} {f : Nat → Option Nat} {i : Int32} {v : Option Nat} (x j : Nat) (hu : us[x]? = some (u, S)) (hk : kd u = k) (hk12 : k < 12) (hc : (uc G u k S)[j]? = some (a, .inl (wT G 4, n, .inr (.inr (.inr (.inr (fun j => (f j).map (wE G)))))))) (hin : inB i n = true) (hz : wOk v = true) (hnew : uc G u k S1 = (uc G u k S).set j (a, .inl (wT G 4, n, .inr (.inr (.inr (.inr (fun j => (va_up f i.toNatClampNeg v j).map (wE G)))))))) (hus : us.set x (u, S1) = us1) (d : decode cc pc = .ok (.aastore, 1)) (kk : V cc own fr lo nL G Γ us1 (pc + 1) L st) : V cc own fr lo nL G Γ us pc L (va_re (wE G) v :: .int i :: .ref a :: st) := by
  intro ok hn H locs ls hP hS hl
  obtain ⟨q0, hq, hset⟩ := allc_set (kd_lt hk hk12) hk (ov_get hn hu) hc
  have hD := ok.2.2.2.2.2.2.2.2.2.2.2.1 (ov Γ.2.2.2 us)
  have hfe : ∀ w : Option Nat, (fun j => (va_up f i.toNatClampNeg w j).map (wE G)) = va_up (fun j => (f j).map (wE G)) i.toNatClampNeg (w.map (wE G)) := by
    intro w
    funext j
    unfold va_up
    split <;> rfl
  rw [hfe] at hnew
  cases v with
  | none =>
    refine va_astqN ok.1 ok.2.1 ok.2.2.2.2.2.2.2.2.1 hP hD hS q0 4 hq rfl (inB_in hin) d (fun H1 locs1 hP1 _ hS1 => ?_)
    subst hus
    refine kk ok (nd_set hn hu) H1 locs1 ls ?_ hS1 hl
    rw [ov_set hn hu, hset S1 _ hnew]
    exact hP1
  | some e =>
    have hst : stF G Γ.1.2.2.2.2 H := stF.kept ok.2.2.2.2.2.2.2.2.2.2.1 (fun a h1 h2 => hS.2.1 a h1 h2)
    obtain ⟨cell, z1, z2, z3, z4⟩ := (hst.1.1 e (of_decide_eq_true hz)).2.1
    refine vb_astq (C := "CombedOut$Word") ok.1 ok.2.1 ok.2.2.2.2.2.2.2.2.1 hP hD hS q0 4 hq rfl ⟨cell, z1, z2, z3⟩ (fun comp c0 h1 h2 => vb_asgS comp c0 h1 h2) (inB_in hin) d (fun H1 locs1 hP1 _ hS1 => ?_)
    subst hus
    refine kk ok (nd_set hn hu) H1 locs1 ls ?_ hS1 hl
    rw [ov_set hn hu, hset S1 _ hnew]
    exact hP1
theorem V_copyi {cc : ByteArray} {own : String} {fr lo nL : Nat} {G : Wc} {Γ : Cx} {us : List (Nat × Ob)} {pc : Nat} {L : List (Nat × Value)} {st : List Value} {us1 : List (Nat × Ob)} {u k a u1 k1 b na nb index : Nat} {S S0 S1 : Ob} {f g : Nat → Int32} {ni : Int32} (n x y j j1 : Nat) (hu : us[x]? = some (u, S0)) (hk : kd u = k) (hk12 : k < 12) (hc : (uc G u k S0)[j]? = some (a, .inl (wT G 0, na, .inl f))) (hu1 : us[y]? = some (u1, S)) (hk1 : kd u1 = k1) (hk112 : k1 < 12) (hc1 : (uc G u1 k1 S)[j1]? = some (b, .inl (wT G 0, nb, .inl g))) (hw : Cond.methodLink own index arraycopyName ∈ gw ∧ Cond.native arraycopyName ∈ gw ∧ Cond.static arraycopyName ∈ gw ∧ Cond.initialized "java/lang/System" ∈ gw)
    (hni : ni.toNatClampNeg = n) (h0 : ¬ ni < 0) (hz0 : ((0 : Int32)).toNatClampNeg = 0) (h4 : n ≤ na) (h5 : n ≤ nb) (hnew : uc G u1 k1 S1 = (uc G u1 k1 S).set j1 (b, .inl (wT G 0, nb, .inl (va_cpy f g 0 0 n)))) (hus : us.set y (u1, S1) = us1) (hrm : (st.map fun v => v.category).sum ≤ 8) (hfr : 1 ≤ fr) (hlo : 80 ≤ lo) (d : decode cc pc = .ok (.invokestatic index, 3)) (kk : V cc own fr lo nL G Γ us1 (pc + 3) L st) : V cc own fr lo nL G Γ us pc L (.int ni :: .int 0 :: .ref b :: .int 0 :: .ref a :: st) := by
  intro ok hn H locs ls hP hS hl
  obtain ⟨q0, hq, hset⟩ := allc_set (kd_lt hk1 hk112) hk1 (ov_get hn hu1) hc1
  obtain ⟨q1, hq1⟩ := allc_get (kd_lt hk hk12) hk (ov_get hn hu) hc
  have hD := ok.2.2.2.2.2.2.2.2.2.2.2.1 (ov Γ.2.2.2 us)
  refine va_copyi ok.1 ok.2.1 (by rw [hl.1]; exact ok.2.2.1) ok.2.2.2.1 (ok.2.2.2.2.1 _ hw.1) (ok.2.2.2.2.1 _ hw.2.1) (ok.2.2.2.2.1 _ hw.2.2.1) (ok.2.2.2.2.1 _ hw.2.2.2) ok.2.2.2.2.2.2.2.2.1 hP hD hS q1 q0 0 0 hq1 hq rfl rfl rfl (by decide) (by decide) h0 (by rw [hz0, hni]; omega) (by rw [hz0, hni]; omega) (fun _ _ => rfl) (Nat.le_trans hfr ok.2.2.2.2.2.2.1.1) (Nat.le_trans (Nat.le_trans (Nat.add_le_add_right hrm _) (by decide)) (Nat.le_trans hlo ok.2.2.2.2.2.2.1.2)) d (fun H1 locs1 hP1 _ hS1 => ?_)
  subst hus
  refine kk ok (nd_set hn hu1) H1 locs1 ls ?_ hS1 hl
  rw [ov_set hn hu1, hset S1 _ hnew]
  rw [hz0, hni] at hP1
  exact hP1
theorem V_copyl {cc : ByteArray} {own : String} {fr lo nL : Nat} {G : Wc} {Γ : Cx} {us : List (Nat × Ob)} {pc : Nat} {L : List (Nat × Value)} {st : List Value} {us1 : List (Nat × Ob)} {u k a u1 k1 b na nb index : Nat} {S S0 S1 : Ob} {f g : Nat → Int64} {ni : Int32} (n x y j j1 : Nat) (hu : us[x]? = some (u, S0)) (hk : kd u = k) (hk12 : k < 12) (hc : (uc G u k S0)[j]? = some (a, .inl (wT G 1, na, .inr (.inl f)))) (hu1 : us[y]? = some (u1, S)) (hk1 : kd u1 = k1) (hk112 : k1 < 12) (hc1 : (uc G u1 k1 S)[j1]? = some (b, .inl (wT G 1, nb, .inr (.inl g)))) (hw : Cond.methodLink own index arraycopyName ∈ gw ∧ Cond.native arraycopyName ∈ gw ∧ Cond.static arraycopyName ∈ gw ∧ Cond.initialized "java/lang/System" ∈ gw)
    (hni : ni.toNatClampNeg = n) (h0 : ¬ ni < 0) (hz0 : ((0 : Int32)).toNatClampNeg = 0) (h4 : n ≤ na) (h5 : n ≤ nb) (hnew : uc G u1 k1 S1 = (uc G u1 k1 S).set j1 (b, .inl (wT G 1, nb, .inr (.inl (va_cpy f g 0 0 n))))) (hus : us.set y (u1, S1) = us1) (hrm : (st.map fun v => v.category).sum ≤ 8) (hfr : 1 ≤ fr) (hlo : 80 ≤ lo) (d : decode cc pc = .ok (.invokestatic index, 3)) (kk : V cc own fr lo nL G Γ us1 (pc + 3) L st) : V cc own fr lo nL G Γ us pc L (.int ni :: .int 0 :: .ref b :: .int 0 :: .ref a :: st) := by
  intro ok hn H locs ls hP hS hl
  obtain ⟨q0, hq, hset⟩ := allc_set (kd_lt hk1 hk112) hk1 (ov_get hn hu1) hc1
  obtain ⟨q1, hq1⟩ := allc_get (kd_lt hk hk12) hk (ov_get hn hu) hc
  have hD := ok.2.2.2.2.2.2.2.2.2.2.2.1 (ov Γ.2.2.2 us)
  refine va_copyl ok.1 ok.2.1 (by rw [hl.1]; exact ok.2.2.1) ok.2.2.2.1 (ok.2.2.2.2.1 _ hw.1) (ok.2.2.2.2.1 _ hw.2.1) (ok.2.2.2.2.1 _ hw.2.2.1) (ok.2.2.2.2.1 _ hw.2.2.2) ok.2.2.2.2.2.2.2.2.1 hP hD hS q1 q0 1 1 hq1 hq rfl rfl rfl (by decide) (by decide) h0 (by rw [hz0, hni]; omega) (by rw [hz0, hni]; omega) (fun _ _ => rfl) (Nat.le_trans hfr ok.2.2.2.2.2.2.1.1) (Nat.le_trans (Nat.le_trans (Nat.add_le_add_right hrm _) (by decide)) (Nat.le_trans hlo ok.2.2.2.2.2.2.1.2)) d (fun H1 locs1 hP1 _ hS1 => ?_)
  subst hus
  refine kk ok (nd_set hn hu1) H1 locs1 ls ?_ hS1 hl
  rw [ov_set hn hu1, hset S1 _ hnew]
  rw [hz0, hni] at hP1
  exact hP1
theorem inB_lt {i : Int32} {n : Nat} (h : inB i n = true) : i.toNatClampNeg < n := Nat.not_le.mp fun q => inB_in h (Or.inr q)
theorem V_alllen {cc : ByteArray} {own : String} {fr lo nL : Nat} {G : Wc} {Γ : Cx} {us : List (Nat × Ob)} {pc : Nat} {L : List (Nat × Value)} {st : List Value} {index : Nat} (hw : Cond.fieldLink own index "CombedOut$Word" "ALL" "[LCombedOut$Word;" ∈ gw) (d : decode cc pc = .ok (.getstatic index, 3)) (d1 : decode cc (pc + 3) = .ok (.arraylength, 1)) (kk : V cc own fr lo nL G Γ us (pc + 3 + 1) L (.int 22 :: st)) : V cc own fr lo nL G Γ us pc L st := by
  intro ok hn H locs ls hP hS hl
  obtain ⟨-, -, ⟨tA, hZ, hT⟩, -⟩ := ok.2.2.2.2.2.2.2.2.2.2.1
  exact va_gets ok.1 ok.2.1 hZ hS ok.2.2.2.1 (ok.2.2.2.2.1 _ hw) (fun x hx => hx) d (va_tlen ok.1 ok.2.1 hT hS (by decide) d1 (kk ok hn H locs ls hP hS hl))
theorem V_allat {cc : ByteArray} {own : String} {fr lo nL : Nat} {G : Wc} {Γ : Cx} {us : List (Nat × Ob)} {pc : Nat} {L : List (Nat × Value)} {st : List Value} {index : Nat} {k : Fin 4} {i : Int32} (j : Nat) (hw : Cond.fieldLink own index "CombedOut$Word" "ALL" "[LCombedOut$Word;" ∈ gw) (hin : inB i 22 = true) (d : decode cc pc = .ok (.getstatic index, 3)) (d1 : decode cc (pc + 3) = .ok (.iload_n k, 1)) (d2 : decode cc (pc + 3 + 1) = .ok (.aaload, 1)) (hj : L[j]? = some ((k : Nat), .int i)) (kk : V cc own fr lo nL G Γ us (pc + 3 + 1 + 1) L (va_re (wE G) (some i.toNatClampNeg) :: st)) : V cc own fr lo nL G Γ us pc L st := by
  intro ok hn H locs ls hP hS hl
  obtain ⟨-, -, ⟨tA, hZ, hT⟩, -⟩ := ok.2.2.2.2.2.2.2.2.2.2.1
  exact va_gets ok.1 ok.2.1 hZ hS ok.2.2.2.1 (ok.2.2.2.2.1 _ hw) (fun x hx => hx) d (lv_iload_n ok.1 ok.2.1 d1 rfl (lv_at hl j hj) (vb_tq ok.1 ok.2.1 hT hS (inB_in hin) rfl d2 (kk ok hn H locs ls hP hS hl)))
theorem V_getcode {cc : ByteArray} {own : String} {fr lo nL : Nat} {G : Wc} {Γ : Cx} {us : List (Nat × Ob)} {pc : Nat} {L : List (Nat × Value)} {st : List Value} {index i : Nat} (hi : i < 22) (hw : Cond.fieldLink own index "CombedOut$Word" "code" "J" ∈ gw) (d : decode cc pc = .ok (.getfield index, 3)) (kk : V cc own fr lo nL G Γ us (pc + 3) L (.long (wCode i) :: st)) : V cc own fr lo nL G Γ us pc L (va_re (wE G) (some i) :: st) := by
  intro ok hn H locs ls hP hS hl
  exact va_getX ok.1 ok.2.1 ok.2.2.2.2.2.2.2.2.2.2.1.2.1 hi hS ok.2.2.2.1 (ok.2.2.2.2.1 _ hw) (fun x hx => hx) d (kk ok hn H locs ls hP hS hl)
theorem V_getcodeN {cc : ByteArray} {own : String} {fr lo nL : Nat} {G : Wc} {Γ : Cx} {us : List (Nat × Ob)} {pc : Nat} {L : List (Nat × Value)} {st : List Value} {index i : Nat} {host : String} (hi : i < 22) (hw : Cond.fieldLinkNest own index "CombedOut$Word" "code" "J" host ∈ lw_tbl) (d : decode cc pc = .ok (.getfield index, 3)) (kk : V cc own fr lo nL G Γ us (pc + 3) L (.long (wCode i) :: st)) : V cc own fr lo nL G Γ us pc L (va_re (wE G) (some i) :: st) := by
  intro ok hn H locs ls hP hS hl
  obtain ⟨cf, k, fi, f, cell, h1, h2, h3, h4, h5, h6⟩ := (ok.2.2.2.2.2.2.2.2.2.2.1.2.1 i hi).kept hS.2.1
  exact va_Wgetf ok.1 ok.2.1 ok.2.2.2.1 (va_Nw.use rfl (ok.2.2.2.2.2.2.2.2.2.1.1 _ hw rfl)) h1 h2 h3 h4 h5 rfl rfl d (kk ok hn H locs ls hP hS hl)
def fu : Nat := 100000
