theorem fmR30 {α : Type} (f : Nat → List α) : (List.range 30).flatMap f = f 0 ++ (f 1 ++ (f 2 ++ (f 3 ++ (f 4 ++ (f 5 ++ (f 6 ++ (f 7 ++ (f 8 ++ (f 9 ++ (f 10 ++ (f 11 ++ (f 12 ++ (f 13 ++ (f 14 ++ (f 15 ++ (f 16 ++ (f 17 ++ (f 18 ++ (f 19 ++ (f 20 ++ (f 21 ++ (f 22 ++ (f 23 ++ (f 24 ++ (f 25 ++ (f 26 ++ (f 27 ++ (f 28 ++ (f 29 ++ []))))))))))))))))))))))))))))) := rfl
theorem fmR8 {α : Type} (f : Nat → List α) : (List.range 8).flatMap f = f 0 ++ (f 1 ++ (f 2 ++ (f 3 ++ (f 4 ++ (f 5 ++ (f 6 ++ (f 7 ++ []))))))) := rfl
theorem allc_u28 (G : Wc) (h : Nat → Ob) : allc G h = u28 G h ++ (uc10 G 28 (h 28) ++ uc11 G 29 (h 29)) := by
  unfold allc
  rw [fmR30]
  unfold u28
  rw [fmR8]
  simp only [List.append_assoc, List.append_nil, List.nil_append]
  rfl
theorem uc11_0 {G : Wc} {S : Ob} (h : oI S 1 = 0) : uc11 G 29 S = [] := by
  unfold uc11
  rw [if_neg (by rw [h]; decide)]
theorem u28_ad (G : Wc) (h h1 : Nat → Ob) : (u28 G h).map (fun q => q.1) = (u28 G h1).map (fun q => q.1) := by
  unfold u28
  rw [fmR8, fmR8]
  rfl
theorem uc10_ad (G : Wc) (u : Nat) (S S1 : Ob) : (uc10 G u S).map (fun q => q.1) = (uc10 G u S1).map (fun q => q.1) := rfl
/-- all worlds' cells are apart, if those of one are, with a place for the law's row -/
theorem vaD_all {A : Nat → Prop} {G : Wc} {h : Nat → Ob} {S : Ob} {e : va_E} (hD : va_D A (u28 G h ++ (uc10 G 28 S ++ [(wA G 29 1, e)]))) : ∀ h1 : Nat → Ob, va_D A (allc G h1) := by
  intro h1
  rw [vaD_iff] at hD ⊢
  have e1 : (u28 G h ++ (uc10 G 28 S ++ [(wA G 29 1, e)])).map (fun q => q.1) = (u28 G h1).map (fun q => q.1) ++ ((uc10 G 28 (h1 28)).map (fun q => q.1) ++ [wA G 29 1]) := by
    rw [List.map_append, List.map_append, u28_ad G h h1, uc10_ad G 28 S (h1 28)]
    rfl
  have hs : ((allc G h1).map (fun q => q.1)).Sublist ((u28 G h ++ (uc10 G 28 S ++ [(wA G 29 1, e)])).map (fun q => q.1)) := by
    rw [e1, allc_u28, List.map_append, List.map_append]
    refine List.Sublist.append (List.Sublist.refl _) (List.Sublist.append (List.Sublist.refl _) ?_)
    unfold uc11
    split
    · exact List.Sublist.refl _
    · exact List.nil_sublist _
  refine ⟨hD.1.sublist hs, fun q hq => ?_⟩
  have h2 : q.1 ∈ (u28 G h ++ (uc10 G 28 S ++ [(wA G 29 1, e)])).map (fun q => q.1) := hs.subset (List.mem_map_of_mem (f := fun q : Nat × va_E => q.1) hq)
  obtain ⟨r, hr, hr2⟩ := List.mem_map.mp h2
  rw [← hr2]
  exact hD.2 r hr
/-- other addresses for the units 28 and 29 -/
def gM (G : Wc) (am : Nat → Nat) (n29 : Nat) : Wc := gB G (fun u i => match u with
  | 28 => am i
  | 29 => n29
  | u => wA G u i)
theorem vaP_app {D : va_G} {cl : List vw_C} {a b : va_W} {H : Heap} : va_P D cl (a ++ b) H ↔ va_P D cl a H ∧ va_P D cl b H :=
  ⟨fun h => ⟨fun k q hk => h k q (by rw [List.getElem?_append_left (List.getElem?_eq_some_iff.mp hk).1]; exact hk), fun k q hk => h (a.length + k) q (by rw [List.getElem?_append_right (by omega), Nat.add_sub_cancel_left]; exact hk)⟩, fun h => va_P.app h.1 h.2⟩
theorem refs_eq {cA n : Nat} {f g : Nat → Option Nat} (h : ∀ j, j < n → f j = g j) : vp_cell cA (n, .inr (.inr (.inr (.inr f)))) = vp_cell cA (n, .inr (.inr (.inr (.inr g)))) := by
  rw [vp_cell_q, vp_cell_q]
  unfold arrV
  congr 1
  apply Array.ext
  · simp
  · intro j h1 h2
    simp only [Array.size_ofFn] at h1
    simp [h j h1]
theorem gM_lt {G : Wc} {am : Nat → Nat} {n u : Nat} (hu : u < 28) : wA (gM G am n) u = wA G u := by
  funext i
  unfold wA gM gB
  dsimp only
  split
  · omega
  · omega
  · rfl
theorem u9_gP {G : Wc} {am : Nat → Nat} {n : Nat} {S : Ob} {H : Heap} (hP : va_P (wD G) vwCl (uc9 G 0 S) H) : va_P (wD G) vwCl (uc9 (gM G am n) 0 S) H := by
  intro k q hk
  rcases k with _ | _ | k
  · exact hP 0 q hk
  · have hq := Option.some.inj hk
    subst hq
    have h1 := hP 1 _ rfl
    show H[wA G 0 6]? = some (vp_cell (wT G 6) _)
    rw [← refs_eq (f := fun j => some (wA G (6 + j) 0)) (g := fun j => some (wA (gM G am n) (6 + j) 0)) (fun j hj => by rw [gM_lt (by omega)])]
    exact h1
  · cases hk
theorem u2_gP {G : Wc} {am : Nat → Nat} {n : Nat} {S : Ob} {H : Heap} (hP : va_P (wD G) vwCl (uc2 G 5 S) H) : va_P (wD G) vwCl (uc2 (gM G am n) 5 S) H := by
  intro k q hk
  rcases k with _ | _ | k
  · exact hP 0 q hk
  · have hq := Option.some.inj hk
    subst hq
    have h1 := hP 1 _ rfl
    show H[wA G 5 1]? = some (vp_cell (wT G 5) _)
    rw [← refs_eq (f := fun j => some (wA G (14 + j) 0)) (g := fun j => some (wA (gM G am n) (14 + j) 0)) (fun j hj => by rw [gM_lt (by omega)])]
    exact h1
  · cases hk
theorem u28_gP {G : Wc} {am : Nat → Nat} {n : Nat} {h : Nat → Ob} {H : Heap} (hP : va_P (wD G) vwCl (u28 G h) H) : va_P (wD G) vwCl (u28 (gM G am n) h) H := by
  unfold u28 at hP ⊢
  rw [fmR8] at hP ⊢
  simp only [vaP_app] at hP ⊢
  obtain ⟨p0, p1, p2, p3, p4, p5, p6, p7, p8, p9, p10, p11, p12, p13, ⟨k0, k1, k2, k3, k4, k5, k6, k7, k8⟩, p22, p23, p24, p25, p26, p27⟩ := hP
  exact ⟨u9_gP p0, p1, p2, p3, p4, u2_gP p5, p6, p7, p8, p9, p10, p11, p12, p13, ⟨k0, k1, k2, k3, k4, k5, k6, k7, k8⟩, p22, p23, p24, p25, p26, p27⟩
theorem u28_gad (G : Wc) (am : Nat → Nat) (n : Nat) (h : Nat → Ob) : (u28 (gM G am n) h).map (fun q => q.1) = (u28 G h).map (fun q => q.1) := by
  unfold u28
  rw [fmR8, fmR8]
  rfl
theorem vaD_congr {A : Nat → Prop} {ws ws1 : va_W} (h : ws.map (fun q => q.1) = ws1.map (fun q => q.1)) (hD : va_D A ws) : va_D A ws1 := by
  rw [vaD_iff] at hD ⊢
  refine ⟨by rw [← h]; exact hD.1, fun q hq => ?_⟩
  have h2 : q.1 ∈ ws.map (fun q => q.1) := by rw [h]; exact List.mem_map_of_mem (f := fun q : Nat × va_E => q.1) hq
  obtain ⟨r, hr, hr2⟩ := List.mem_map.mp h2
  rw [← hr2]
  exact hD.2 r hr
theorem u28_up {G : Wc} {h h1 : Nat → Ob} (he : ∀ u, u < 28 → h u = h1 u) : u28 G h = u28 G h1 := by
  unfold u28
  rw [fmR8, fmR8]
  rw [he 0 (by omega), he 1 (by omega), he 2 (by omega), he 3 (by omega), he 4 (by omega), he 5 (by omega), he 6 (by omega), he 7 (by omega), he 8 (by omega), he 9 (by omega), he 10 (by omega), he 11 (by omega), he 12 (by omega), he 13 (by omega), he (14 + 0) (by omega), he (14 + 1) (by omega), he (14 + 2) (by omega), he (14 + 3) (by omega), he (14 + 4) (by omega), he (14 + 5) (by omega), he (14 + 6) (by omega), he (14 + 7) (by omega), he 22 (by omega), he 23 (by omega), he 24 (by omega), he 25 (by omega), he 26 (by omega), he 27 (by omega)]
def mdf : va_E := .inr (10, [.int 0, .null, .int 0, .int 0, .int 0, .int 0, .null, .null, .null, .null, .null, .int 0, .int 0, .int 0, .int 0, .int 0, .int 0, .long 0, .int 0, .int 0, .int 0, .null, .null, .int 0, .int 0, .int 0, .null, .null, .null, .int 0, .int 0, .int 0, .int 0, .null, .int 0, .int 0, .int 0, .null, .int 0, .null, .int 0, .int 0, .int 0, .int 0, .int 0, .null, .null, .null, .null])
def QM (G : Wc) (q : Nat) (h : Nat → Ob) (mz : Ob) : Array Value → State → Outcome → State → Prop := fun _ st oc t => oc = .returned none ∧ (∃ (am : Nat → Nat) (n29 : Nat), am 0 = q ∧ Wd (gM G am n29) (va_up (va_up h 29 Z0) 28 mz) t) ∧ va_F (wF G) st t
def PM (G : Wc) (q : Nat) (h : Nat → Ob) (U : State) : Prop := va_P (wD G) vwCl ((q, mdf) :: u28 G h) U.heap ∧ va_D (wF G) ((q, mdf) :: u28 G h) ∧ va_K (wD G) vwCl (wTys G) U ∧ nwAll U ∧ stF G U U.heap ∧ wZ G ≤ U.heap.size ∧ aoF U
theorem wo_RX11 : Cond.methodLink RX11 27 Lib.objectInit ∈ gw := gw_at 1354 (by decide +kernel) rfl
theorem cs_135 : (Int16.ofInt (135)).toInt32 = (135 : Int32) := by decide
theorem cb_36 : (Int8.ofInt (36)).toInt32 = (36 : Int32) := by decide
theorem cs_704 : (Int16.ofInt (704)).toInt32 = (704 : Int32) := by decide
theorem cs_16384 : (Int16.ofInt (16384)).toInt32 = (16384 : Int32) := by decide
theorem cb_45 : (Int8.ofInt (45)).toInt32 = (45 : Int32) := by decide
theorem cs_780 : (Int16.ofInt (780)).toInt32 = (780 : Int32) := by decide
theorem perm_m {α : Type} (c a0 a1 a2 a3 a4 a5 a6 a7 a8 a9 a10 a11 a12 a13 a14 a15 a16 a17 e : α) (U : List α) : (c :: ((((((((((((((((((U ++ [a0]) ++ [a1]) ++ [a2]) ++ [a3]) ++ [a4]) ++ [a5]) ++ [a6]) ++ [a7]) ++ [a8]) ++ [a9]) ++ [a10]) ++ [a11]) ++ [a12]) ++ [a13]) ++ [a14]) ++ [a15]) ++ [a16]) ++ [a17])).Perm (U ++ ([c, a0, a1, a2, a3, a4, a5, a6, a7, a8, a9, a10, a11, a12, a13, a14, a15, a16, a17])) := by
  have h : ((((((((((((((((((U ++ [a0]) ++ [a1]) ++ [a2]) ++ [a3]) ++ [a4]) ++ [a5]) ++ [a6]) ++ [a7]) ++ [a8]) ++ [a9]) ++ [a10]) ++ [a11]) ++ [a12]) ++ [a13]) ++ [a14]) ++ [a15]) ++ [a16]) ++ [a17]) = U ++ [a0, a1, a2, a3, a4, a5, a6, a7, a8, a9, a10, a11, a12, a13, a14, a15, a16, a17] := by simp only [List.append_assoc, List.cons_append, List.nil_append]
  rw [h]
  exact (List.perm_middle (a := c) (l₁ := U) (l₂ := [a0, a1, a2, a3, a4, a5, a6, a7, a8, a9, a10, a11, a12, a13, a14, a15, a16, a17])).symm
/-- the raw part's end: the rest of the body over the world of units -/
theorem m_bridge {G : Wc} {Γ : Cx} {h : Nat → Ob} {q : Nat} {am : Nat → Nat} {ws : va_W} {mz : Ob} (hmz : pX11_tail Z0 = some mz) (hq : am 0 = q) (hws : ws.Perm (u28 G h ++ uc10 (gM G am 0) 28 Z0))
    (hret : Γ.2.1.2.2.2.1.sig.returnType = none) (hQ : Γ.2.2.1.2.2 = MQ Γ.2.1.2.2.1 (QM G q h mz) Γ.2.1.2.1 Γ.1.2.2.2.2 18 20854 (wF G)) (hst : stF G Γ.1.2.2.2.2 Γ.1.2.2.2.2.heap) (hz : wZ G ≤ Γ.1.2.2.2.2.heap.size) : C cX11_init RX11 3 110 2 18 20854 G (wF G) Γ ws 18 20854 153 [(0, .ref q)] [] := by
  intro ok H locs ls hP hD hS hl
  have hP1 := vaP_perm hws hP
  have hD1 := vaD_perm hws hD
  obtain ⟨hx, hb, hml, hown, hts, hlk, hRm, hcs, hK, hNw, hL, hA, hAO⟩ := ok
  have hall : ∀ h1 : Nat → Ob, va_D (wF (gM G am H.size)) (allc (gM G am H.size) h1) := by
    refine vaD_all (h := h) (S := Z0) (e := .inr (0, [])) ?_
    refine vaD_congr (ws := (u28 G h ++ uc10 (gM G am 0) 28 Z0) ++ [(H.size, .inr (0, []))]) ?_ (va_D.push (D := wD G) (cl := vwCl) (H := H) hD1 hP1 rfl (Nat.le_trans hz hS.1))
    rw [List.append_assoc, List.map_append, List.map_append, List.map_append, List.map_append, u28_gad]
    rfl
  have hw : va_P (wD G) vwCl (allc (gM G am H.size) (ov (va_up h 29 Z0) [(28, Z0)])) H := by
    rw [allc_u28, u28_up (h := ov (va_up h 29 Z0) [(28, Z0)]) (h1 := h) (fun u hu => by show va_up (va_up h 29 Z0) 28 Z0 u = h u; rw [up_ne (by omega), up_ne (by omega)]), uc11_0 (S := ov (va_up h 29 Z0) [(28, Z0)] 29) (by show oI (va_up (va_up h 29 Z0) 28 Z0 29) 1 = 0; rw [up_ne (by omega), up_self]; rfl), List.append_nil]
    refine vaP_app.mpr ⟨u28_gP (vaP_app.mp hP1).1, ?_⟩
    show va_P (wD G) vwCl (uc10 (gM G am H.size) 28 (va_up (va_up h 29 Z0) 28 Z0 28)) H
    rw [up_self]
    exact (vaP_app.mp hP1).2
  have key := kX11_tail (G := gM G am H.size) (Γ := (Γ.1, Γ.2.1, (18, 20854, MQ Γ.2.1.2.2.1 (Pq (gM G am H.size) none (ov (va_up h 29 Z0) [(28, mz)])) Γ.2.1.2.1 Γ.1.2.2.2.2 18 20854 (wF G)), va_up h 29 Z0)) (S := Z0) (r := mz) ⟨hret, rfl⟩ hmz
    ⟨hx, hb, hml, hown, hts, hlk, ⟨Nat.le_trans (by decide) hRm.1, Nat.le_trans (by decide) hRm.2⟩, hcs, hK, hNw, hst, hall, hz, hL⟩ (List.nodup_cons.mpr ⟨List.not_mem_nil, List.nodup_nil⟩) H locs ls hw hS (by rw [show wA (gM G am H.size) 28 0 = q from hq]; exact hl)
  intro T hT X
  obtain ⟨t, a1, oc, b1, b2, ⟨e1, e2, e3⟩, b4⟩ := key T hT X
  rw [hQ]
  exact ⟨t, a1, oc, b1, b2, ⟨e1, ⟨am, H.size, hq, e2⟩, e3⟩, b4⟩
set_option maxRecDepth 100000 in
set_option maxHeartbeats 4000000 in
theorem kX11_init {G : Wc} {q : Nat} {h : Nat → Ob} {mz : Ob} (hmz : pX11_tail Z0 = some mz) : Met (wL G) yX11_init (Cond.code yX11_init cX11_init 2 none :: gw) (rmC 3 110 18 20854) (va_Pc [.ref q] (PM G q h)) (QM G q h mz) 18 20854 (wF G) := by
  refine Met.ofW (cc := cX11_init) (maxL := 2) (ret := none) (by decide) rfl ?_
  intro p e s m args below meth c s₁ B hml hv
  obtain ⟨rfl, hP, hD, hK, hNw, hst, hz, hAO⟩ := hv
  have hts : ∀ w ∈ Cond.code yX11_init cX11_init 2 none :: gw, w.before #[.ref q] s = true := atoms_spec (ws := Cond.code yX11_init cX11_init 2 none :: gw) B.pre
  have hl := lv_entry [.ref q] (n := 2) (Nat.le_of_ble_eq_true rfl)
  have hfc : s.vm.findClass RX11 = some m.cls := findClass_of_methodNamed B.named
  have hname : meth.name = "<init>" := (name_of_methodNamed B.named B.method).1
  have key : ∀ Γ : Cx, Γ.2.1.2.2.2.1.name = "<init>" → Γ.2.1.2.2.2.1.sig.returnType = none → Γ.2.2.1.2.2 = MQ Γ.2.1.2.2.1 (QM G q h mz) Γ.2.1.2.1 Γ.1.2.2.2.2 18 20854 (wF G) → stF G Γ.1.2.2.2.2 Γ.1.2.2.2.2.heap → wZ G ≤ Γ.1.2.2.2.2.heap.size → C cX11_init RX11 3 110 2 18 20854 G (wF G) Γ ((q, mdf) :: u28 G h) 0 0 0 [(0, .ref q)] [] := by
    intro Γ hi hr hQ hs hz
    unfold mdf
    refine c_aload_n (pc := 0) 0 dX11_init_0 rfl ?_
    refine c_obj (pc := 1) ⟨wo_RX11, wobj1, wobj2⟩ (Nat.le_of_ble_eq_true rfl) (Nat.le_of_ble_eq_true rfl) (Nat.le_of_ble_eq_true rfl) dX11_init_1 ?_
    refine c_aload_n (pc := 4) 0 dX11_init_4 rfl ?_
    refine c_sipush (pc := 5) (940 : Int32) dX11_init_5 cs_940 ?_
    refine c_newa (pc := 8) (atype := .byte) (ty := .byte) (t := 2) (N' := 940) (a0 := (940, .inl (fun _ => 0))) wac_byte rfl rfl ra_byte (fun _ => rfl) (by decide) (by decide) (Nat.le_of_ble_eq_true rfl) (Nat.le_of_ble_eq_true rfl) (Nat.le_of_ble_eq_true rfl) dX11_init_8 (fun q1 => ?_)
    refine c_eq l_app1 ?_
    refine c_put (pc := 10) (T := TX11) (ty := .array .byte) (ws1 := (q, .inr (10, [.int 0, .ref q1, .int 0, .int 0, .int 0, .int 0, .null, .null, .null, .null, .null, .int 0, .int 0, .int 0, .int 0, .int 0, .int 0, .long 0, .int 0, .int 0, .int 0, .null, .null, .int 0, .int 0, .int 0, .null, .null, .null, .int 0, .int 0, .int 0, .int 0, .null, .int 0, .int 0, .int 0, .null, .int 0, .null, .int 0, .int 0, .int 0, .int 0, .int 0, .null, .null, .null, .null])) :: _) tyX11 1 0 wf_RX11_14 inX11 tyX11_ok nmX11 rfl (by decide) rfl (Or.inr ⟨rfl, hi, rfl⟩) (tyX11_ok 1 (by decide)) rfl rfl l_get0 (Nat.le_of_ble_eq_true rfl) l_set0 dX11_init_10 ?_
    refine c_aload_n (pc := 13) 0 dX11_init_13 rfl ?_
    refine c_sipush (pc := 14) (390 : Int32) dX11_init_14 cs_390 ?_
    refine c_newa (pc := 17) (atype := .int) (ty := .int) (t := 0) (N' := 390) (a0 := (390, .inl (fun _ => 0))) wac_int rfl rfl ra_int (fun _ => rfl) (by decide) (by decide) (Nat.le_of_ble_eq_true rfl) (Nat.le_of_ble_eq_true rfl) (Nat.le_of_ble_eq_true rfl) dX11_init_17 (fun q2 => ?_)
    refine c_eq l_app1 ?_
    refine c_put (pc := 19) (T := TX11) (ty := .array .int) (ws1 := (q, .inr (10, [.int 0, .ref q1, .int 0, .int 0, .int 0, .int 0, .ref q2, .null, .null, .null, .null, .int 0, .int 0, .int 0, .int 0, .int 0, .int 0, .long 0, .int 0, .int 0, .int 0, .null, .null, .int 0, .int 0, .int 0, .null, .null, .null, .int 0, .int 0, .int 0, .int 0, .null, .int 0, .int 0, .int 0, .null, .int 0, .null, .int 0, .int 0, .int 0, .int 0, .int 0, .null, .null, .null, .null])) :: _) tyX11 6 0 wf_RX11_33 inX11 tyX11_ok nmX11 rfl (by decide) rfl (Or.inr ⟨rfl, hi, rfl⟩) (tyX11_ok 6 (by decide)) rfl rfl l_get0 (Nat.le_of_ble_eq_true rfl) l_set0 dX11_init_19 ?_
    refine c_aload_n (pc := 22) 0 dX11_init_22 rfl ?_
    refine c_bipush (pc := 23) (121 : Int32) dX11_init_23 cb_121 ?_
    refine c_newa (pc := 25) (atype := .int) (ty := .int) (t := 0) (N' := 121) (a0 := (121, .inl (fun _ => 0))) wac_int rfl rfl ra_int (fun _ => rfl) (by decide) (by decide) (Nat.le_of_ble_eq_true rfl) (Nat.le_of_ble_eq_true rfl) (Nat.le_of_ble_eq_true rfl) dX11_init_25 (fun q3 => ?_)
    refine c_eq l_app1 ?_
    refine c_put (pc := 27) (T := TX11) (ty := .array .int) (ws1 := (q, .inr (10, [.int 0, .ref q1, .int 0, .int 0, .int 0, .int 0, .ref q2, .ref q3, .null, .null, .null, .int 0, .int 0, .int 0, .int 0, .int 0, .int 0, .long 0, .int 0, .int 0, .int 0, .null, .null, .int 0, .int 0, .int 0, .null, .null, .null, .int 0, .int 0, .int 0, .int 0, .null, .int 0, .int 0, .int 0, .null, .int 0, .null, .int 0, .int 0, .int 0, .int 0, .int 0, .null, .null, .null, .null])) :: _) tyX11 7 0 wf_RX11_37 inX11 tyX11_ok nmX11 rfl (by decide) rfl (Or.inr ⟨rfl, hi, rfl⟩) (tyX11_ok 7 (by decide)) rfl rfl l_get0 (Nat.le_of_ble_eq_true rfl) l_set0 dX11_init_27 ?_
    refine c_aload_n (pc := 30) 0 dX11_init_30 rfl ?_
    refine c_sipush (pc := 31) (135 : Int32) dX11_init_31 cs_135 ?_
    refine c_newa (pc := 34) (atype := .int) (ty := .int) (t := 0) (N' := 135) (a0 := (135, .inl (fun _ => 0))) wac_int rfl rfl ra_int (fun _ => rfl) (by decide) (by decide) (Nat.le_of_ble_eq_true rfl) (Nat.le_of_ble_eq_true rfl) (Nat.le_of_ble_eq_true rfl) dX11_init_34 (fun q4 => ?_)
    refine c_eq l_app1 ?_
    refine c_put (pc := 36) (T := TX11) (ty := .array .int) (ws1 := (q, .inr (10, [.int 0, .ref q1, .int 0, .int 0, .int 0, .int 0, .ref q2, .ref q3, .ref q4, .null, .null, .int 0, .int 0, .int 0, .int 0, .int 0, .int 0, .long 0, .int 0, .int 0, .int 0, .null, .null, .int 0, .int 0, .int 0, .null, .null, .null, .int 0, .int 0, .int 0, .int 0, .null, .int 0, .int 0, .int 0, .null, .int 0, .null, .int 0, .int 0, .int 0, .int 0, .int 0, .null, .null, .null, .null])) :: _) tyX11 8 0 wf_RX11_40 inX11 tyX11_ok nmX11 rfl (by decide) rfl (Or.inr ⟨rfl, hi, rfl⟩) (tyX11_ok 8 (by decide)) rfl rfl l_get0 (Nat.le_of_ble_eq_true rfl) l_set0 dX11_init_36 ?_
    refine c_aload_n (pc := 39) 0 dX11_init_39 rfl ?_
    refine c_bipush (pc := 40) (36 : Int32) dX11_init_40 cb_36 ?_
    refine c_newa (pc := 42) (atype := .long) (ty := .long) (t := 1) (N' := 36) (a0 := (36, .inr (.inl (fun _ => 0)))) wac_long rfl rfl ra_long (fun _ => rfl) (by decide) (by decide) (Nat.le_of_ble_eq_true rfl) (Nat.le_of_ble_eq_true rfl) (Nat.le_of_ble_eq_true rfl) dX11_init_42 (fun q5 => ?_)
    refine c_eq l_app1 ?_
    refine c_put (pc := 44) (T := TX11) (ty := .array .long) (ws1 := (q, .inr (10, [.int 0, .ref q1, .int 0, .int 0, .int 0, .int 0, .ref q2, .ref q3, .ref q4, .ref q5, .null, .int 0, .int 0, .int 0, .int 0, .int 0, .int 0, .long 0, .int 0, .int 0, .int 0, .null, .null, .int 0, .int 0, .int 0, .null, .null, .null, .int 0, .int 0, .int 0, .int 0, .null, .int 0, .int 0, .int 0, .null, .int 0, .null, .int 0, .int 0, .int 0, .int 0, .int 0, .null, .null, .null, .null])) :: _) tyX11 9 0 wf_RX11_43 inX11 tyX11_ok nmX11 rfl (by decide) rfl (Or.inr ⟨rfl, hi, rfl⟩) (tyX11_ok 9 (by decide)) rfl rfl l_get0 (Nat.le_of_ble_eq_true rfl) l_set0 dX11_init_44 ?_
    refine c_aload_n (pc := 47) 0 dX11_init_47 rfl ?_
    refine c_bipush (pc := 48) (22 : Int32) dX11_init_48 cb_22 ?_
    refine c_newa (pc := 50) (atype := .long) (ty := .long) (t := 1) (N' := 22) (a0 := (22, .inr (.inl (fun _ => 0)))) wac_long rfl rfl ra_long (fun _ => rfl) (by decide) (by decide) (Nat.le_of_ble_eq_true rfl) (Nat.le_of_ble_eq_true rfl) (Nat.le_of_ble_eq_true rfl) dX11_init_50 (fun q6 => ?_)
    refine c_eq l_app1 ?_
    refine c_put (pc := 52) (T := TX11) (ty := .array .long) (ws1 := (q, .inr (10, [.int 0, .ref q1, .int 0, .int 0, .int 0, .int 0, .ref q2, .ref q3, .ref q4, .ref q5, .ref q6, .int 0, .int 0, .int 0, .int 0, .int 0, .int 0, .long 0, .int 0, .int 0, .int 0, .null, .null, .int 0, .int 0, .int 0, .null, .null, .null, .int 0, .int 0, .int 0, .int 0, .null, .int 0, .int 0, .int 0, .null, .int 0, .null, .int 0, .int 0, .int 0, .int 0, .int 0, .null, .null, .null, .null])) :: _) tyX11 10 0 wf_RX11_47 inX11 tyX11_ok nmX11 rfl (by decide) rfl (Or.inr ⟨rfl, hi, rfl⟩) (tyX11_ok 10 (by decide)) rfl rfl l_get0 (Nat.le_of_ble_eq_true rfl) l_set0 dX11_init_52 ?_
    refine c_aload_n (pc := 55) 0 dX11_init_55 rfl ?_
    refine c_sipush (pc := 56) (704 : Int32) dX11_init_56 cs_704 ?_
    refine c_newa (pc := 59) (atype := .int) (ty := .int) (t := 0) (N' := 704) (a0 := (704, .inl (fun _ => 0))) wac_int rfl rfl ra_int (fun _ => rfl) (by decide) (by decide) (Nat.le_of_ble_eq_true rfl) (Nat.le_of_ble_eq_true rfl) (Nat.le_of_ble_eq_true rfl) dX11_init_59 (fun q7 => ?_)
    refine c_eq l_app1 ?_
    refine c_put (pc := 61) (T := TX11) (ty := .array .int) (ws1 := (q, .inr (10, [.int 0, .ref q1, .int 0, .int 0, .int 0, .int 0, .ref q2, .ref q3, .ref q4, .ref q5, .ref q6, .int 0, .int 0, .int 0, .int 0, .int 0, .int 0, .long 0, .int 0, .int 0, .int 0, .ref q7, .null, .int 0, .int 0, .int 0, .null, .null, .null, .int 0, .int 0, .int 0, .int 0, .null, .int 0, .int 0, .int 0, .null, .int 0, .null, .int 0, .int 0, .int 0, .int 0, .int 0, .null, .null, .null, .null])) :: _) tyX11 21 0 wf_RX11_50 inX11 tyX11_ok nmX11 rfl (by decide) rfl (Or.inr ⟨rfl, hi, rfl⟩) (tyX11_ok 21 (by decide)) rfl rfl l_get0 (Nat.le_of_ble_eq_true rfl) l_set0 dX11_init_61 ?_
    refine c_aload_n (pc := 64) 0 dX11_init_64 rfl ?_
    refine c_bipush (pc := 65) (88 : Int32) dX11_init_65 cb_88 ?_
    refine c_newa (pc := 67) (atype := .int) (ty := .int) (t := 0) (N' := 88) (a0 := (88, .inl (fun _ => 0))) wac_int rfl rfl ra_int (fun _ => rfl) (by decide) (by decide) (Nat.le_of_ble_eq_true rfl) (Nat.le_of_ble_eq_true rfl) (Nat.le_of_ble_eq_true rfl) dX11_init_67 (fun q8 => ?_)
    refine c_eq l_app1 ?_
    refine c_put (pc := 69) (T := TX11) (ty := .array .int) (ws1 := (q, .inr (10, [.int 0, .ref q1, .int 0, .int 0, .int 0, .int 0, .ref q2, .ref q3, .ref q4, .ref q5, .ref q6, .int 0, .int 0, .int 0, .int 0, .int 0, .int 0, .long 0, .int 0, .int 0, .int 0, .ref q7, .ref q8, .int 0, .int 0, .int 0, .null, .null, .null, .int 0, .int 0, .int 0, .int 0, .null, .int 0, .int 0, .int 0, .null, .int 0, .null, .int 0, .int 0, .int 0, .int 0, .int 0, .null, .null, .null, .null])) :: _) tyX11 22 0 wf_RX11_53 inX11 tyX11_ok nmX11 rfl (by decide) rfl (Or.inr ⟨rfl, hi, rfl⟩) (tyX11_ok 22 (by decide)) rfl rfl l_get0 (Nat.le_of_ble_eq_true rfl) l_set0 dX11_init_69 ?_
    refine c_aload_n (pc := 72) 0 dX11_init_72 rfl ?_
    refine c_sipush (pc := 73) (16384 : Int32) dX11_init_73 cs_16384 ?_
    refine c_newa (pc := 76) (atype := .boolean) (ty := .boolean) (t := 3) (N' := 16384) (a0 := (16384, .inl (fun _ => 0))) wac_boolean rfl rfl ra_bool (fun _ => rfl) (by decide) (by decide) (Nat.le_of_ble_eq_true rfl) (Nat.le_of_ble_eq_true rfl) (Nat.le_of_ble_eq_true rfl) dX11_init_76 (fun q9 => ?_)
    refine c_eq l_app1 ?_
    refine c_put (pc := 78) (T := TX11) (ty := .array .boolean) (ws1 := (q, .inr (10, [.int 0, .ref q1, .int 0, .int 0, .int 0, .int 0, .ref q2, .ref q3, .ref q4, .ref q5, .ref q6, .int 0, .int 0, .int 0, .int 0, .int 0, .int 0, .long 0, .int 0, .int 0, .int 0, .ref q7, .ref q8, .int 0, .int 0, .int 0, .ref q9, .null, .null, .int 0, .int 0, .int 0, .int 0, .null, .int 0, .int 0, .int 0, .null, .int 0, .null, .int 0, .int 0, .int 0, .int 0, .int 0, .null, .null, .null, .null])) :: _) tyX11 26 0 wf_RX11_56 inX11 tyX11_ok nmX11 rfl (by decide) rfl (Or.inr ⟨rfl, hi, rfl⟩) (tyX11_ok 26 (by decide)) rfl rfl l_get0 (Nat.le_of_ble_eq_true rfl) l_set0 dX11_init_78 ?_
    refine c_aload_n (pc := 81) 0 dX11_init_81 rfl ?_
    refine c_sipush (pc := 82) (1024 : Int32) dX11_init_82 cs_1024 ?_
    refine c_newa (pc := 85) (atype := .int) (ty := .int) (t := 0) (N' := 1024) (a0 := (1024, .inl (fun _ => 0))) wac_int rfl rfl ra_int (fun _ => rfl) (by decide) (by decide) (Nat.le_of_ble_eq_true rfl) (Nat.le_of_ble_eq_true rfl) (Nat.le_of_ble_eq_true rfl) dX11_init_85 (fun q10 => ?_)
    refine c_eq l_app1 ?_
    refine c_put (pc := 87) (T := TX11) (ty := .array .int) (ws1 := (q, .inr (10, [.int 0, .ref q1, .int 0, .int 0, .int 0, .int 0, .ref q2, .ref q3, .ref q4, .ref q5, .ref q6, .int 0, .int 0, .int 0, .int 0, .int 0, .int 0, .long 0, .int 0, .int 0, .int 0, .ref q7, .ref q8, .int 0, .int 0, .int 0, .ref q9, .ref q10, .null, .int 0, .int 0, .int 0, .int 0, .null, .int 0, .int 0, .int 0, .null, .int 0, .null, .int 0, .int 0, .int 0, .int 0, .int 0, .null, .null, .null, .null])) :: _) tyX11 27 0 wf_RX11_60 inX11 tyX11_ok nmX11 rfl (by decide) rfl (Or.inr ⟨rfl, hi, rfl⟩) (tyX11_ok 27 (by decide)) rfl rfl l_get0 (Nat.le_of_ble_eq_true rfl) l_set0 dX11_init_87 ?_
    refine c_aload_n (pc := 90) 0 dX11_init_90 rfl ?_
    refine c_bipush (pc := 91) (10 : Int32) dX11_init_91 cb_10 ?_
    refine c_newa (pc := 93) (atype := .int) (ty := .int) (t := 0) (N' := 10) (a0 := (10, .inl (fun _ => 0))) wac_int rfl rfl ra_int (fun _ => rfl) (by decide) (by decide) (Nat.le_of_ble_eq_true rfl) (Nat.le_of_ble_eq_true rfl) (Nat.le_of_ble_eq_true rfl) dX11_init_93 (fun q11 => ?_)
    refine c_eq l_app1 ?_
    refine c_put (pc := 95) (T := TX11) (ty := .array .int) (ws1 := (q, .inr (10, [.int 0, .ref q1, .int 0, .int 0, .int 0, .int 0, .ref q2, .ref q3, .ref q4, .ref q5, .ref q6, .int 0, .int 0, .int 0, .int 0, .int 0, .int 0, .long 0, .int 0, .int 0, .int 0, .ref q7, .ref q8, .int 0, .int 0, .int 0, .ref q9, .ref q10, .ref q11, .int 0, .int 0, .int 0, .int 0, .null, .int 0, .int 0, .int 0, .null, .int 0, .null, .int 0, .int 0, .int 0, .int 0, .int 0, .null, .null, .null, .null])) :: _) tyX11 28 0 wf_RX11_63 inX11 tyX11_ok nmX11 rfl (by decide) rfl (Or.inr ⟨rfl, hi, rfl⟩) (tyX11_ok 28 (by decide)) rfl rfl l_get0 (Nat.le_of_ble_eq_true rfl) l_set0 dX11_init_95 ?_
    refine c_aload_n (pc := 98) 0 dX11_init_98 rfl ?_
    refine c_bipush (pc := 99) (88 : Int32) dX11_init_99 cb_88 ?_
    refine c_newa (pc := 101) (atype := .byte) (ty := .byte) (t := 2) (N' := 88) (a0 := (88, .inl (fun _ => 0))) wac_byte rfl rfl ra_byte (fun _ => rfl) (by decide) (by decide) (Nat.le_of_ble_eq_true rfl) (Nat.le_of_ble_eq_true rfl) (Nat.le_of_ble_eq_true rfl) dX11_init_101 (fun q12 => ?_)
    refine c_eq l_app1 ?_
    refine c_put (pc := 103) (T := TX11) (ty := .array .byte) (ws1 := (q, .inr (10, [.int 0, .ref q1, .int 0, .int 0, .int 0, .int 0, .ref q2, .ref q3, .ref q4, .ref q5, .ref q6, .int 0, .int 0, .int 0, .int 0, .int 0, .int 0, .long 0, .int 0, .int 0, .int 0, .ref q7, .ref q8, .int 0, .int 0, .int 0, .ref q9, .ref q10, .ref q11, .int 0, .int 0, .int 0, .int 0, .ref q12, .int 0, .int 0, .int 0, .null, .int 0, .null, .int 0, .int 0, .int 0, .int 0, .int 0, .null, .null, .null, .null])) :: _) tyX11 33 0 wf_RX11_66 inX11 tyX11_ok nmX11 rfl (by decide) rfl (Or.inr ⟨rfl, hi, rfl⟩) (tyX11_ok 33 (by decide)) rfl rfl l_get0 (Nat.le_of_ble_eq_true rfl) l_set0 dX11_init_103 ?_
    refine c_aload_n (pc := 106) 0 dX11_init_106 rfl ?_
    refine c_iconst (pc := 107) (4 : Int32) dX11_init_107 ci_4 ?_
    refine c_newa (pc := 108) (atype := .int) (ty := .int) (t := 0) (N' := 4) (a0 := (4, .inl (fun _ => 0))) wac_int rfl rfl ra_int (fun _ => rfl) (by decide) (by decide) (Nat.le_of_ble_eq_true rfl) (Nat.le_of_ble_eq_true rfl) (Nat.le_of_ble_eq_true rfl) dX11_init_108 (fun q13 => ?_)
    refine c_eq l_app1 ?_
    refine c_put (pc := 110) (T := TX11) (ty := .array .int) (ws1 := (q, .inr (10, [.int 0, .ref q1, .int 0, .int 0, .int 0, .int 0, .ref q2, .ref q3, .ref q4, .ref q5, .ref q6, .int 0, .int 0, .int 0, .int 0, .int 0, .int 0, .long 0, .int 0, .int 0, .int 0, .ref q7, .ref q8, .int 0, .int 0, .int 0, .ref q9, .ref q10, .ref q11, .int 0, .int 0, .int 0, .int 0, .ref q12, .int 0, .int 0, .int 0, .ref q13, .int 0, .null, .int 0, .int 0, .int 0, .int 0, .int 0, .null, .null, .null, .null])) :: _) tyX11 37 0 wf_RX11_69 inX11 tyX11_ok nmX11 rfl (by decide) rfl (Or.inr ⟨rfl, hi, rfl⟩) (tyX11_ok 37 (by decide)) rfl rfl l_get0 (Nat.le_of_ble_eq_true rfl) l_set0 dX11_init_110 ?_
    refine c_aload_n (pc := 113) 0 dX11_init_113 rfl ?_
    refine c_bipush (pc := 114) (45 : Int32) dX11_init_114 cb_45 ?_
    refine c_newa (pc := 116) (atype := .int) (ty := .int) (t := 0) (N' := 45) (a0 := (45, .inl (fun _ => 0))) wac_int rfl rfl ra_int (fun _ => rfl) (by decide) (by decide) (Nat.le_of_ble_eq_true rfl) (Nat.le_of_ble_eq_true rfl) (Nat.le_of_ble_eq_true rfl) dX11_init_116 (fun q14 => ?_)
    refine c_eq l_app1 ?_
    refine c_put (pc := 118) (T := TX11) (ty := .array .int) (ws1 := (q, .inr (10, [.int 0, .ref q1, .int 0, .int 0, .int 0, .int 0, .ref q2, .ref q3, .ref q4, .ref q5, .ref q6, .int 0, .int 0, .int 0, .int 0, .int 0, .int 0, .long 0, .int 0, .int 0, .int 0, .ref q7, .ref q8, .int 0, .int 0, .int 0, .ref q9, .ref q10, .ref q11, .int 0, .int 0, .int 0, .int 0, .ref q12, .int 0, .int 0, .int 0, .ref q13, .int 0, .ref q14, .int 0, .int 0, .int 0, .int 0, .int 0, .null, .null, .null, .null])) :: _) tyX11 39 0 wf_RX11_72 inX11 tyX11_ok nmX11 rfl (by decide) rfl (Or.inr ⟨rfl, hi, rfl⟩) (tyX11_ok 39 (by decide)) rfl rfl l_get0 (Nat.le_of_ble_eq_true rfl) l_set0 dX11_init_118 ?_
    refine c_aload_n (pc := 121) 0 dX11_init_121 rfl ?_
    refine c_bipush (pc := 122) (45 : Int32) dX11_init_122 cb_45 ?_
    refine c_newa (pc := 124) (atype := .boolean) (ty := .boolean) (t := 3) (N' := 45) (a0 := (45, .inl (fun _ => 0))) wac_boolean rfl rfl ra_bool (fun _ => rfl) (by decide) (by decide) (Nat.le_of_ble_eq_true rfl) (Nat.le_of_ble_eq_true rfl) (Nat.le_of_ble_eq_true rfl) dX11_init_124 (fun q15 => ?_)
    refine c_eq l_app1 ?_
    refine c_put (pc := 126) (T := TX11) (ty := .array .boolean) (ws1 := (q, .inr (10, [.int 0, .ref q1, .int 0, .int 0, .int 0, .int 0, .ref q2, .ref q3, .ref q4, .ref q5, .ref q6, .int 0, .int 0, .int 0, .int 0, .int 0, .int 0, .long 0, .int 0, .int 0, .int 0, .ref q7, .ref q8, .int 0, .int 0, .int 0, .ref q9, .ref q10, .ref q11, .int 0, .int 0, .int 0, .int 0, .ref q12, .int 0, .int 0, .int 0, .ref q13, .int 0, .ref q14, .int 0, .int 0, .int 0, .int 0, .int 0, .ref q15, .null, .null, .null])) :: _) tyX11 45 0 wf_RX11_75 inX11 tyX11_ok nmX11 rfl (by decide) rfl (Or.inr ⟨rfl, hi, rfl⟩) (tyX11_ok 45 (by decide)) rfl rfl l_get0 (Nat.le_of_ble_eq_true rfl) l_set0 dX11_init_126 ?_
    refine c_aload_n (pc := 129) 0 dX11_init_129 rfl ?_
    refine c_sipush (pc := 130) (780 : Int32) dX11_init_130 cs_780 ?_
    refine c_newa (pc := 133) (atype := .int) (ty := .int) (t := 0) (N' := 780) (a0 := (780, .inl (fun _ => 0))) wac_int rfl rfl ra_int (fun _ => rfl) (by decide) (by decide) (Nat.le_of_ble_eq_true rfl) (Nat.le_of_ble_eq_true rfl) (Nat.le_of_ble_eq_true rfl) dX11_init_133 (fun q16 => ?_)
    refine c_eq l_app1 ?_
    refine c_put (pc := 135) (T := TX11) (ty := .array .int) (ws1 := (q, .inr (10, [.int 0, .ref q1, .int 0, .int 0, .int 0, .int 0, .ref q2, .ref q3, .ref q4, .ref q5, .ref q6, .int 0, .int 0, .int 0, .int 0, .int 0, .int 0, .long 0, .int 0, .int 0, .int 0, .ref q7, .ref q8, .int 0, .int 0, .int 0, .ref q9, .ref q10, .ref q11, .int 0, .int 0, .int 0, .int 0, .ref q12, .int 0, .int 0, .int 0, .ref q13, .int 0, .ref q14, .int 0, .int 0, .int 0, .int 0, .int 0, .ref q15, .ref q16, .null, .null])) :: _) tyX11 46 0 wf_RX11_78 inX11 tyX11_ok nmX11 rfl (by decide) rfl (Or.inr ⟨rfl, hi, rfl⟩) (tyX11_ok 46 (by decide)) rfl rfl l_get0 (Nat.le_of_ble_eq_true rfl) l_set0 dX11_init_135 ?_
    refine c_aload_n (pc := 138) 0 dX11_init_138 rfl ?_
    refine c_bipush (pc := 139) (36 : Int32) dX11_init_139 cb_36 ?_
    refine c_newa (pc := 141) (atype := .long) (ty := .long) (t := 1) (N' := 36) (a0 := (36, .inr (.inl (fun _ => 0)))) wac_long rfl rfl ra_long (fun _ => rfl) (by decide) (by decide) (Nat.le_of_ble_eq_true rfl) (Nat.le_of_ble_eq_true rfl) (Nat.le_of_ble_eq_true rfl) dX11_init_141 (fun q17 => ?_)
    refine c_eq l_app1 ?_
    refine c_put (pc := 143) (T := TX11) (ty := .array .long) (ws1 := (q, .inr (10, [.int 0, .ref q1, .int 0, .int 0, .int 0, .int 0, .ref q2, .ref q3, .ref q4, .ref q5, .ref q6, .int 0, .int 0, .int 0, .int 0, .int 0, .int 0, .long 0, .int 0, .int 0, .int 0, .ref q7, .ref q8, .int 0, .int 0, .int 0, .ref q9, .ref q10, .ref q11, .int 0, .int 0, .int 0, .int 0, .ref q12, .int 0, .int 0, .int 0, .ref q13, .int 0, .ref q14, .int 0, .int 0, .int 0, .int 0, .int 0, .ref q15, .ref q16, .ref q17, .null])) :: _) tyX11 47 0 wf_RX11_81 inX11 tyX11_ok nmX11 rfl (by decide) rfl (Or.inr ⟨rfl, hi, rfl⟩) (tyX11_ok 47 (by decide)) rfl rfl l_get0 (Nat.le_of_ble_eq_true rfl) l_set0 dX11_init_143 ?_
    refine c_aload_n (pc := 146) 0 dX11_init_146 rfl ?_
    refine c_iconst (pc := 147) (2 : Int32) dX11_init_147 ci_2 ?_
    refine c_newa (pc := 148) (atype := .boolean) (ty := .boolean) (t := 3) (N' := 2) (a0 := (2, .inl (fun _ => 0))) wac_boolean rfl rfl ra_bool (fun _ => rfl) (by decide) (by decide) (Nat.le_of_ble_eq_true rfl) (Nat.le_of_ble_eq_true rfl) (Nat.le_of_ble_eq_true rfl) dX11_init_148 (fun q18 => ?_)
    refine c_eq l_app1 ?_
    refine c_put (pc := 150) (T := TX11) (ty := .array .boolean) (ws1 := (q, .inr (10, [.int 0, .ref q1, .int 0, .int 0, .int 0, .int 0, .ref q2, .ref q3, .ref q4, .ref q5, .ref q6, .int 0, .int 0, .int 0, .int 0, .int 0, .int 0, .long 0, .int 0, .int 0, .int 0, .ref q7, .ref q8, .int 0, .int 0, .int 0, .ref q9, .ref q10, .ref q11, .int 0, .int 0, .int 0, .int 0, .ref q12, .int 0, .int 0, .int 0, .ref q13, .int 0, .ref q14, .int 0, .int 0, .int 0, .int 0, .int 0, .ref q15, .ref q16, .ref q17, .ref q18])) :: _) tyX11 48 0 wf_RX11_84 inX11 tyX11_ok nmX11 rfl (by decide) rfl (Or.inr ⟨rfl, hi, rfl⟩) (tyX11_ok 48 (by decide)) rfl rfl l_get0 (Nat.le_of_ble_eq_true rfl) l_set0 dX11_init_150 ?_
    refine m_bridge (am := fun i => match i with | 0 => q | 2 => q1 | 7 => q2 | 8 => q3 | 9 => q4 | 10 => q5 | 11 => q6 | 22 => q7 | 23 => q8 | 27 => q9 | 28 => q10 | 29 => q11 | 34 => q12 | 38 => q13 | 40 => q14 | 46 => q15 | 47 => q16 | 48 => q17 | 49 => q18 | _ => q) hmz rfl ?_ hr hQ hs hz
    exact perm_m _ _ _ _ _ _ _ _ _ _ _ _ _ _ _ _ _ _ _ (0, .inr (0, [])) _
  have key2 := key ((p, wL G, e, (headSpec (Cond.code yX11_init cX11_init 2 none :: gw) (rmC 3 110 18 20854)).room, s), (m, #[.ref q], below, meth, c), (0, 0, MQ below (QM G q h mz) #[.ref q] s 18 20854 (wF G)), h) hname B.returns rfl hst hz
    ⟨B.exec, B.bytes, hml, hfc, fun w hw => hts w (List.mem_cons_of_mem _ hw), B.notSynchronized, ⟨Nat.le_refl _, Nat.le_refl _⟩, ⟨Nat.le_refl _, Nat.le_refl _⟩, hK, hNw, rfl, fun _ hq => Nat.le_trans hz hq, hAO⟩ s.heap [] _ hP hD va_S.rf hl
  rw [lg_entry_eq]
  exact key2
