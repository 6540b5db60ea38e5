theorem c_eq {cc : ByteArray} {own : String} {fr lo nL MC MS : Nat} {G : Wc} {A : Nat → Prop} {Γ : Cx} {ws : va_W} {ca sl pc : Nat} {L : List (Nat × Value)} {st : List Value} {ws1 : va_W} (h : ws = ws1) (kk : C cc own fr lo nL MC MS G A Γ ws1 ca sl pc L st) : C cc own fr lo nL MC MS G A Γ ws ca sl pc L st := by subst h; exact kk
theorem l_app1 {α : Type} {a : α} {R b : List α} : (a :: R) ++ b = a :: (R ++ b) := rfl
theorem l_app2 {α : Type} {a c : α} {R b : List α} : (a :: c :: R) ++ b = a :: c :: (R ++ b) := rfl
theorem l_app0 {α : Type} {a : α} {b : List α} : (a :: []) ++ b = a :: b := rfl
theorem l_app02 {α : Type} {a c : α} {b : List α} : (a :: c :: []) ++ b = a :: c :: b := rfl
theorem l_set0 {α : Type} {a x : α} {R : List α} : (a :: R).set 0 x = x :: R := rfl
theorem l_set1 {α : Type} {a b x : α} {R : List α} : (a :: b :: R).set 1 x = a :: x :: R := rfl
theorem l_get0 {α : Type} {a : α} {R : List α} : (a :: R)[0]? = some a := rfl
theorem l_get1 {α : Type} {a b : α} {R : List α} : (a :: b :: R)[1]? = some b := rfl
theorem l_at {α : Type} {a c x : α} {R b : List α} (n : Nat) (hn : R.length = n) (hb : b[0]? = some x) : (a :: c :: (R ++ b))[2 + n]? = some x := by
  rw [show 2 + n = n + 1 + 1 by omega, List.getElem?_cons_succ, List.getElem?_cons_succ, List.getElem?_append_right (by omega), hn, Nat.sub_self]
  exact hb
theorem c_sub {cc : ByteArray} {own : String} {fr lo nL MC MS : Nat} {G : Wc} {A : Nat → Prop} {Γ : Cx} {ws : va_W} {ca sl pc : Nat} {L : List (Nat × Value)} {st : List Value} {ws1 : va_W} (is : List Nat) (hn : va_nd is = true) (hs : is.map (fun i => ws[i]?) = ws1.map some) (kk : C cc own fr lo nL MC MS G A Γ ws1 ca sl pc L st) : C cc own fr lo nL MC MS G A Γ ws ca sl pc L st := by
  intro ok H locs ls hP hD hS hl
  refine kk ok H locs ls (fun k q hk => ?_) (hD.sub is hn hs) hS hl
  have h1 : (is.map (fun i => ws[i]?))[k]? = some (some q) := by rw [hs, List.getElem?_map, hk]; rfl
  rw [List.getElem?_map] at h1
  cases hi : is[k]? with
  | none => rw [hi] at h1; cases h1
  | some i => rw [hi] at h1; exact hP i q (Option.some.inj h1)
theorem vaD_iff {A : Nat → Prop} {ws : va_W} : va_D A ws ↔ (ws.map (fun q => q.1)).Nodup ∧ ∀ q ∈ ws, A q.1 := by
  constructor
  · intro h
    refine ⟨?_, fun q hq => by obtain ⟨k, hk⟩ := List.getElem?_of_mem hq; exact h.2 k q hk⟩
    rw [List.nodup_iff_pairwise_ne, List.pairwise_iff_getElem]
    intro i j hi hj hij he
    rw [List.length_map] at hi hj
    rw [List.getElem_map, List.getElem_map] at he
    have := h.1 i j ws[i] ws[j] (List.getElem?_eq_getElem hi) (List.getElem?_eq_getElem hj) he
    omega
  · intro h
    refine ⟨fun i j p q hp hq he => ?_, fun k q hk => h.2 q (List.mem_of_getElem? hk)⟩
    obtain ⟨hi, ei⟩ := List.getElem?_eq_some_iff.mp hp
    obtain ⟨hj, ej⟩ := List.getElem?_eq_some_iff.mp hq
    have hnd := h.1
    rw [List.nodup_iff_pairwise_ne, List.pairwise_iff_getElem] at hnd
    rcases Nat.lt_trichotomy i j with hl | hl | hl
    · exact absurd (by rw [List.getElem_map, List.getElem_map, ei, ej]; exact he) (hnd i j (by rw [List.length_map]; exact hi) (by rw [List.length_map]; exact hj) hl)
    · exact hl
    · exact absurd (by rw [List.getElem_map, List.getElem_map, ei, ej]; exact he.symm) (hnd j i (by rw [List.length_map]; exact hj) (by rw [List.length_map]; exact hi) hl)
theorem vaD_perm {A : Nat → Prop} {ws ws1 : va_W} (h : ws.Perm ws1) (hD : va_D A ws) : va_D A ws1 := by
  rw [vaD_iff] at hD ⊢
  exact ⟨((h.map _).nodup_iff).mp hD.1, fun q hq => hD.2 q (h.mem_iff.mpr hq)⟩
theorem vaP_perm {G : Wc} {H : Heap} {ws ws1 : va_W} (h : ws.Perm ws1) (hP : va_P (wD G) vwCl ws H) : va_P (wD G) vwCl ws1 H := by
  intro k q hk
  obtain ⟨i, hi⟩ := List.getElem?_of_mem (h.mem_iff.mpr (List.mem_of_getElem? hk))
  exact hP i q hi
theorem c_rot {cc : ByteArray} {own : String} {fr lo nL MC MS : Nat} {G : Wc} {A : Nat → Prop} {Γ : Cx} {ws : va_W} {ca sl pc : Nat} {L : List (Nat × Value)} {st : List Value} {a c : Nat × va_E} {R : va_W} (hws : ws = a :: (R ++ [c])) (kk : C cc own fr lo nL MC MS G A Γ (a :: c :: R) ca sl pc L st) : C cc own fr lo nL MC MS G A Γ ws ca sl pc L st := by
  subst hws
  intro ok H locs ls hP hD hS hl
  have hp : (a :: (R ++ [c])).Perm (a :: c :: R) := List.Perm.cons a (List.perm_append_comm (l₁ := R) (l₂ := [c]))
  exact kk ok H locs ls (vaP_perm hp hP) (vaD_perm hp hD) hS hl
theorem c_get {cc : ByteArray} {own : String} {fr lo nL MC MS : Nat} {G : Wc} {A : Nat → Prop} {Γ : Cx} {ws : va_W} {ca sl pc : Nat} {L : List (Nat × Value)} {st : List Value} {CC : String} {T : u_T} {N ci index a : Nat} {fs : List Value} {v : Value} (kf q0 : Nat) (hw : Cond.fieldLink own index CC (T kf).2.1 (T kf).2.2.1 ∈ gw) (hin : ∀ w ∈ u_ws CC T N, w ∈ gw) (hc : vwCl[ci]? = some (CC, T, N)) (hkf : kf < N) (href : (T kf).1 = CC) (he : ws[q0]? = some (a, .inr (ci, fs))) (hv : fs[kf]? = some v) (d : decode cc pc = .ok (.getfield index, 3)) (kk : C cc own fr lo nL MC MS G A Γ ws ca sl (pc + 3) L (v :: st)) : C cc own fr lo nL MC MS G A Γ ws ca sl pc L (.ref a :: st) := by
  intro ok H locs ls hP hD hS hl
  exact va_get ok.1 ok.2.1 ok.2.2.2.2.1 hin ok.2.2.2.1 ok.2.2.2.2.2.2.2.2.1 hP q0 he hc kf hkf (ok.2.2.2.2.1 _ hw) (fun x hx => by rw [← href]; exact hx) hv d (kk ok H locs ls hP hD hS hl)
theorem c_ast {cc : ByteArray} {own : String} {fr lo nL MC MS : Nat} {G : Wc} {A : Nat → Prop} {Γ : Cx} {ws : va_W} {ca sl pc : Nat} {L : List (Nat × Value)} {st : List Value} {ws1 : va_W} {t ci n v a : Nat} {r : vw_C} {vs : List Value} {f : Nat → Option Nat} {i : Int32} (q0 qk : Nat) (ha : ws[q0]? = some (a, .inl (wT G t, n, .inr (.inr (.inr (.inr f)))))) (ht : (wTys G)[t]? = some (wT G t, .object r.1)) (hv : ws[qk]? = some (v, .inr (ci, vs))) (hc : vwCl[ci]? = some r) (hin : inB i n = true) (hws : ws.set q0 (a, .inl (wT G t, n, .inr (.inr (.inr (.inr (va_up f i.toNatClampNeg (some v))))))) = ws1) (d : decode cc pc = .ok (.aastore, 1)) (kk : C cc own fr lo nL MC MS G A Γ ws1 ca sl (pc + 1) L st) : C cc own fr lo nL MC MS G A Γ ws ca sl pc L (.ref v :: .int i :: .ref a :: st) := by
  intro ok H locs ls hP hD hS hl
  subst hws
  exact va_astq ok.1 ok.2.1 ok.2.2.2.2.2.2.2.2.1 hP hD hS q0 t qk ci ha ht hv hc (inB_in hin) d (fun H1 locs1 hP1 hD1 hS1 => kk ok H1 locs1 ls hP1 hD1 hS1 hl)
/-- a row of references: what lies beyond its length is free -/
theorem c_eqv {cc : ByteArray} {own : String} {fr lo nL MC MS : Nat} {G : Wc} {A : Nat → Prop} {Γ : Cx} {ws : va_W} {ca sl pc : Nat} {L : List (Nat × Value)} {st : List Value} {a cA n : Nat} {c0 : Nat × va_E} {R : va_W} {f : Nat → Option Nat} (g : Nat → Option Nat) (hws : ws = c0 :: (a, .inl (cA, n, .inr (.inr (.inr (.inr f))))) :: R) (hfg : ∀ j, j < n → f j = g j) (kk : C cc own fr lo nL MC MS G A Γ (c0 :: (a, .inl (cA, n, .inr (.inr (.inr (.inr g))))) :: R) ca sl pc L st) : C cc own fr lo nL MC MS G A Γ ws ca sl pc L st := by
  subst hws
  intro ok H locs ls hP hD hS hl
  have hcell : vp_cell cA (n, .inr (.inr (.inr (.inr f)))) = vp_cell cA (n, .inr (.inr (.inr (.inr g)))) := by
    rw [vp_cell_q, vp_cell_q]
    unfold arrV
    congr 1
    apply Array.ext
    · simp
    · intro j h1 h2
      simp only [Array.size_ofFn] at h1
      simp [hfg j h1]
  refine kk ok H locs ls (fun k q hk => ?_) ?_ hS hl
  · rcases k with _ | _ | k
    · exact hP 0 q hk
    · cases hk
      have h1 := hP 1 _ rfl
      show H[a]? = some (vp_cell cA _)
      rw [← hcell]
      exact h1
    · exact hP (k + 2) q hk
  · rw [vaD_iff] at hD ⊢
    refine ⟨hD.1, fun q hq => ?_⟩
    rcases List.mem_cons.mp hq with rfl | hq
    · exact hD.2 _ List.mem_cons_self
    · rcases List.mem_cons.mp hq with rfl | hq
      · exact hD.2 (a, .inl (cA, n, .inr (.inr (.inr (.inr f))))) (List.mem_cons_of_mem _ List.mem_cons_self)
      · exact hD.2 _ (List.mem_cons_of_mem _ (List.mem_cons_of_mem _ hq))
def pPast (G : Wc) (q : Nat) : va_W → Prop := fun ws => ∃ (ad : Nat → Nat) (sd : Nat → Nat → Nat), ad 0 = q ∧ ws = (ad 0, .inr (2, [.ref (ad 1), .int 0, .int 0])) :: (ad 1, .inl (wT G 5, 8, .inr (.inr (.inr (.inr (fun j => some (sd j 0))))))) :: (List.range 8).flatMap (fun j => uc (gA G (sd j)) 0 6 Z0)
def pImg (G : Wc) (q : Nat) : va_W → Prop := fun ws => ∃ (ad qd sd nd1 : Nat → Nat), ad 0 = q ∧ ws = (ad 0, .inr (1, [.ref (qd 0), .ref (sd 0), .ref (nd1 0), .int 0])) :: (uc (gA G qd) 0 4 (sI Z0 14 9) ++ (uc (gA G sd) 0 6 Z0 ++ uc (gA G nd1) 0 5 Z0))
theorem wo_RX1 : Cond.methodLink RX1 1 Lib.objectInit ∈ gw := gw_at 409 (by decide +kernel) rfl
theorem wnw_RX1_7 : Cond.classLink RX1 7 RX4 ∈ gw ∧ Cond.instantiable RX4 16 ∈ gw ∧ Cond.initialized RX4 ∈ gw := ⟨gw_at 410 (by decide +kernel) rfl, gw_at 196 (by decide +kernel) rfl, gw_at 117 (by decide +kernel) rfl⟩
theorem wn_RX1_9 : (Cond.methodLink RX1 9 yX4_init ∈ gw ∨ ∃ host, Cond.methodLinkNest RX1 9 yX4_init host ∈ lw_tbl) ∧ Cond.instanceMethod yX4_init ∈ gw ∧ Cond.initialized yX4_init.cls ∈ gw ∧ Cond.code yX4_init cX4_init 1 none ∈ gw := ⟨Or.inr ⟨"CombedOut", List.mem_of_getElem? (i := 411) (by decide +kernel)⟩, gw_at 198 (by decide +kernel) rfl, gw_at 117 (by decide +kernel) rfl, gw_at 199 (by decide +kernel) rfl⟩
theorem md_X4_init : yX4_init.cls ≠ "java/lang/invoke/MethodHandle" ∧ yX4_init.cls ≠ "java/lang/invoke/VarHandle" ∧ (parseMethodDescriptor yX4_init.desc).map (fun d => d.parameters.length) = some 0 := by decide +kernel
theorem wnw_RX1_16 : Cond.classLink RX1 16 RX6 ∈ gw ∧ Cond.instantiable RX6 13 ∈ gw ∧ Cond.initialized RX6 ∈ gw := ⟨gw_at 412 (by decide +kernel) rfl, gw_at 294 (by decide +kernel) rfl, gw_at 118 (by decide +kernel) rfl⟩
theorem wn_RX1_18 : (Cond.methodLink RX1 18 yX6_init ∈ gw ∨ ∃ host, Cond.methodLinkNest RX1 18 yX6_init host ∈ lw_tbl) ∧ Cond.instanceMethod yX6_init ∈ gw ∧ Cond.initialized yX6_init.cls ∈ gw ∧ Cond.code yX6_init cX6_init 1 none ∈ gw := ⟨Or.inr ⟨"CombedOut", List.mem_of_getElem? (i := 413) (by decide +kernel)⟩, gw_at 296 (by decide +kernel) rfl, gw_at 118 (by decide +kernel) rfl, gw_at 297 (by decide +kernel) rfl⟩
theorem md_X6_init : yX6_init.cls ≠ "java/lang/invoke/MethodHandle" ∧ yX6_init.cls ≠ "java/lang/invoke/VarHandle" ∧ (parseMethodDescriptor yX6_init.desc).map (fun d => d.parameters.length) = some 0 := by decide +kernel
theorem wnw_RX1_23 : Cond.classLink RX1 23 RX5 ∈ gw ∧ Cond.instantiable RX5 5 ∈ gw ∧ Cond.initialized RX5 ∈ gw := ⟨gw_at 414 (by decide +kernel) rfl, gw_at 360 (by decide +kernel) rfl, gw_at 119 (by decide +kernel) rfl⟩
theorem wn_RX1_25 : (Cond.methodLink RX1 25 yX5_init ∈ gw ∨ ∃ host, Cond.methodLinkNest RX1 25 yX5_init host ∈ lw_tbl) ∧ Cond.instanceMethod yX5_init ∈ gw ∧ Cond.initialized yX5_init.cls ∈ gw ∧ Cond.code yX5_init cX5_init 1 none ∈ gw := ⟨Or.inr ⟨"CombedOut", List.mem_of_getElem? (i := 415) (by decide +kernel)⟩, gw_at 362 (by decide +kernel) rfl, gw_at 119 (by decide +kernel) rfl, gw_at 363 (by decide +kernel) rfl⟩
theorem md_X5_init : yX5_init.cls ≠ "java/lang/invoke/MethodHandle" ∧ yX5_init.cls ≠ "java/lang/invoke/VarHandle" ∧ (parseMethodDescriptor yX5_init.desc).map (fun d => d.parameters.length) = some 0 := by decide +kernel
set_option maxRecDepth 100000 in
set_option maxHeartbeats 4000000 in
theorem kX1_init {G : Wc} {q : Nat} : CnI yX1_init cX1_init 1 2 120 23 318 G q (.inr (1, [.null, .null, .null, .int 0])) (pImg G q) := by
  refine c_method (by decide) rfl rfl (Nat.le_of_ble_eq_true rfl) (fun A Γ hi hret => ?_)
  refine c_aload_n (pc := 0) 0 dX1_init_0 rfl ?_
  refine c_obj (pc := 1) ⟨wo_RX1, wobj1, wobj2⟩ (Nat.le_of_ble_eq_true rfl) (Nat.le_of_ble_eq_true rfl) (Nat.le_of_ble_eq_true rfl) dX1_init_1 ?_
  refine c_aload_n (pc := 4) 0 dX1_init_4 rfl ?_
  refine c_new (pc := 5) (CC := RX4) (T := TX4) (N := 16) (ci := 4) (fs := [.int 0, .null, .null, .null, .int 0, .null, .null, .int 0, .null, .null, .null, .int 0, .null, .null, .int 0, .int 0]) tyX4 tyX4_ok inX4 wnw_RX1_7 rfl (fun j hj => match j, hj with | 0, _ => rfl | 1, _ => rfl | 2, _ => rfl | 3, _ => rfl | 4, _ => rfl | 5, _ => rfl | 6, _ => rfl | 7, _ => rfl | 8, _ => rfl | 9, _ => rfl | 10, _ => rfl | 11, _ => rfl | 12, _ => rfl | 13, _ => rfl | 14, _ => rfl | 15, _ => rfl | j + 16, h => absurd h (by omega)) (Nat.le_of_ble_eq_true rfl) (Nat.le_of_ble_eq_true rfl) dX1_init_5 (fun q1 => ?_)
  refine c_dup (pc := 8) dX1_init_8 rfl ?_
  refine c_call (pc := 9) (W0 := (q, .inr (1, [.null, .null, .null, .int 0])) :: []) (kX4_init (q := q1)) rfl wn_RX1_9 rfl md_X4_init (Nat.le_of_ble_eq_true rfl) (Nat.le_of_ble_eq_true rfl) (Nat.le_of_ble_eq_true rfl) (Nat.le_of_ble_eq_true rfl) (Nat.le_of_ble_eq_true rfl) dX1_init_9 (fun w1 hp => ?_)
  obtain ⟨ad1, h1, rfl⟩ := hp
  subst h1
  refine c_eq (ws1 := (q, .inr (1, [.null, .null, .null, .int 0])) :: uc (gA G ad1) 0 4 (sI Z0 14 9)) l_app0 ?_
  refine c_put (pc := 12) (T := TX1) (ty := .object "CombedOut$Quarter") (ws1 := (q, .inr (1, [.ref (ad1 0), .null, .null, .int 0])) :: uc (gA G ad1) 0 4 (sI Z0 14 9)) tyX1 0 0 wf_RX1_10 inX1 tyX1_ok nmX1 rfl (by decide) rfl (Or.inr ⟨rfl, hi, rfl⟩) (tyX1_ok 0 (by decide)) rfl rfl l_get0 (Nat.le_of_ble_eq_true rfl) l_set0 dX1_init_12 ?_
  refine c_aload_n (pc := 15) 0 dX1_init_15 rfl ?_
  refine c_new (pc := 16) (CC := RX6) (T := TX6) (N := 13) (ci := 6) (fs := [.null, .null, .null, .null, .null, .null, .null, .int 0, .int 0, .int 0, .int 0, .int 0, .int 0]) tyX6 tyX6_ok inX6 wnw_RX1_16 rfl (fun j hj => match j, hj with | 0, _ => rfl | 1, _ => rfl | 2, _ => rfl | 3, _ => rfl | 4, _ => rfl | 5, _ => rfl | 6, _ => rfl | 7, _ => rfl | 8, _ => rfl | 9, _ => rfl | 10, _ => rfl | 11, _ => rfl | 12, _ => rfl | j + 13, h => absurd h (by omega)) (Nat.le_of_ble_eq_true rfl) (Nat.le_of_ble_eq_true rfl) dX1_init_16 (fun q2 => ?_)
  refine c_dup (pc := 19) dX1_init_19 rfl ?_
  refine c_call (pc := 20) (W0 := (q, .inr (1, [.ref (ad1 0), .null, .null, .int 0])) :: uc (gA G ad1) 0 4 (sI Z0 14 9)) (kX6_init (q := q2)) rfl wn_RX1_18 rfl md_X6_init (Nat.le_of_ble_eq_true rfl) (Nat.le_of_ble_eq_true rfl) (Nat.le_of_ble_eq_true rfl) (Nat.le_of_ble_eq_true rfl) (Nat.le_of_ble_eq_true rfl) dX1_init_20 (fun w1 hp => ?_)
  obtain ⟨ad2, h2, rfl⟩ := hp
  subst h2
  refine c_eq (ws1 := (q, .inr (1, [.ref (ad1 0), .null, .null, .int 0])) :: (uc (gA G ad1) 0 4 (sI Z0 14 9) ++ uc (gA G ad2) 0 6 Z0)) l_app1 ?_
  refine c_put (pc := 23) (T := TX1) (ty := .object "CombedOut$State") (ws1 := (q, .inr (1, [.ref (ad1 0), .ref (ad2 0), .null, .int 0])) :: (uc (gA G ad1) 0 4 (sI Z0 14 9) ++ uc (gA G ad2) 0 6 Z0)) tyX1 1 0 wf_RX1_19 inX1 tyX1_ok nmX1 rfl (by decide) rfl (Or.inr ⟨rfl, hi, rfl⟩) (tyX1_ok 1 (by decide)) rfl rfl l_get0 (Nat.le_of_ble_eq_true rfl) l_set0 dX1_init_23 ?_
  refine c_aload_n (pc := 26) 0 dX1_init_26 rfl ?_
  refine c_new (pc := 27) (CC := RX5) (T := TX5) (N := 5) (ci := 5) (fs := [.null, .null, .null, .int 0, .int 0]) tyX5 tyX5_ok inX5 wnw_RX1_23 rfl (fun j hj => match j, hj with | 0, _ => rfl | 1, _ => rfl | 2, _ => rfl | 3, _ => rfl | 4, _ => rfl | j + 5, h => absurd h (by omega)) (Nat.le_of_ble_eq_true rfl) (Nat.le_of_ble_eq_true rfl) dX1_init_27 (fun q3 => ?_)
  refine c_dup (pc := 30) dX1_init_30 rfl ?_
  refine c_call (pc := 31) (W0 := (q, .inr (1, [.ref (ad1 0), .ref (ad2 0), .null, .int 0])) :: (uc (gA G ad1) 0 4 (sI Z0 14 9) ++ uc (gA G ad2) 0 6 Z0)) (kX5_init (q := q3)) rfl wn_RX1_25 rfl md_X5_init (Nat.le_of_ble_eq_true rfl) (Nat.le_of_ble_eq_true rfl) (Nat.le_of_ble_eq_true rfl) (Nat.le_of_ble_eq_true rfl) (Nat.le_of_ble_eq_true rfl) dX1_init_31 (fun w1 hp => ?_)
  obtain ⟨ad3, h3, rfl⟩ := hp
  subst h3
  refine c_eq (ws1 := (q, .inr (1, [.ref (ad1 0), .ref (ad2 0), .null, .int 0])) :: ((uc (gA G ad1) 0 4 (sI Z0 14 9) ++ uc (gA G ad2) 0 6 Z0) ++ uc (gA G ad3) 0 5 Z0)) l_app1 ?_
  refine c_put (pc := 34) (T := TX1) (ty := .object "CombedOut$Sentence") (ws1 := (q, .inr (1, [.ref (ad1 0), .ref (ad2 0), .ref (ad3 0), .int 0])) :: ((uc (gA G ad1) 0 4 (sI Z0 14 9) ++ uc (gA G ad2) 0 6 Z0) ++ uc (gA G ad3) 0 5 Z0)) tyX1 2 0 wf_RX1_26 inX1 tyX1_ok nmX1 rfl (by decide) rfl (Or.inr ⟨rfl, hi, rfl⟩) (tyX1_ok 2 (by decide)) rfl rfl l_get0 (Nat.le_of_ble_eq_true rfl) l_set0 dX1_init_34 ?_
  exact hret _ 37 _ ⟨fun _ => q, ad1, ad2, ad3, rfl, rfl⟩ dX1_init_37
theorem wo_RX2 : Cond.methodLink RX2 3 Lib.objectInit ∈ gw := gw_at 389 (by decide +kernel) rfl
theorem wcl_RX2_11 : Cond.classLink RX2 11 "CombedOut$State" ∈ gw := gw_at 390 (by decide +kernel) rfl
theorem wnw_RX2_11 : Cond.classLink RX2 11 RX6 ∈ gw ∧ Cond.instantiable RX6 13 ∈ gw ∧ Cond.initialized RX6 ∈ gw := ⟨gw_at 390 (by decide +kernel) rfl, gw_at 294 (by decide +kernel) rfl, gw_at 118 (by decide +kernel) rfl⟩
theorem wn_RX2_17 : (Cond.methodLink RX2 17 yX6_init ∈ gw ∨ ∃ host, Cond.methodLinkNest RX2 17 yX6_init host ∈ lw_tbl) ∧ Cond.instanceMethod yX6_init ∈ gw ∧ Cond.initialized yX6_init.cls ∈ gw ∧ Cond.code yX6_init cX6_init 1 none ∈ gw := ⟨Or.inr ⟨"CombedOut", List.mem_of_getElem? (i := 392) (by decide +kernel)⟩, gw_at 296 (by decide +kernel) rfl, gw_at 118 (by decide +kernel) rfl, gw_at 297 (by decide +kernel) rfl⟩
set_option maxRecDepth 100000 in
set_option maxHeartbeats 4000000 in
theorem kX2_init {G : Wc} {q : Nat} : CnI yX2_init cX2_init 2 2 120 65 784 G q (.inr (2, [.null, .int 0, .int 0])) (pPast G q) := by
  refine c_method (by decide) rfl rfl (Nat.le_of_ble_eq_true rfl) (fun A Γ hi hret => ?_)
  refine c_aload_n (pc := 0) 0 dX2_init_0 rfl ?_
  refine c_obj (pc := 1) ⟨wo_RX2, wobj1, wobj2⟩ (Nat.le_of_ble_eq_true rfl) (Nat.le_of_ble_eq_true rfl) (Nat.le_of_ble_eq_true rfl) dX2_init_1 ?_
  refine c_aload_n (pc := 4) 0 dX2_init_4 rfl ?_
  refine c_bipush (pc := 5) (8 : Int32) dX2_init_5 cb_8 ?_
  refine c_newq (pc := 7) (CC := "CombedOut$State") (t := 5) (N' := 8) wcl_RX2_11 (by decide) rfl (by decide) (by decide) (Nat.le_of_ble_eq_true rfl) (Nat.le_of_ble_eq_true rfl) (Nat.le_of_ble_eq_true rfl) dX2_init_7 (fun qa => ?_)
  refine c_rot (a := (q, .inr (2, [.null, .int 0, .int 0]))) (c := (qa, .inl (wT G 5, 8, .inr (.inr (.inr (.inr (fun _ => none))))))) (R := []) rfl ?_
  refine c_put (pc := 10) (T := TX2) (ty := .array (.object "CombedOut$State")) (ws1 := (q, .inr (2, [.ref qa, .int 0, .int 0])) :: (qa, .inl (wT G 5, 8, .inr (.inr (.inr (.inr (fun _ => none)))))) :: []) tyX2 0 0 wf_RX2_13 inX2 tyX2_ok nmX2 rfl (by decide) rfl (Or.inr ⟨rfl, hi, rfl⟩) (tyX2_ok 0 (by decide)) rfl rfl l_get0 (Nat.le_of_ble_eq_true rfl) l_set0 dX2_init_10 ?_
  refine c_iconst (pc := 13) (0 : Int32) dX2_init_13 ci_0 ?_
  refine c_istore_n (pc := 14) [(1, _), (0, _)] dX2_init_14 (Nat.le_of_ble_eq_true rfl) rfl ?_
  refine c_iload_n (pc := 15) 0 dX2_init_15 rfl ?_
  refine c_bipush (pc := 16) (8 : Int32) dX2_init_16 cb_8 ?_
  refine c_icmp_geN (pc := 18) 40 dX2_init_18 (by decide) (by decide) ?_
  refine c_aload_n (pc := 21) 1 dX2_init_21 rfl ?_
  refine c_get (pc := 22) (T := TX2) 0 0 wf_RX2_13 inX2 rfl (by decide) rfl l_get0 rfl dX2_init_22 ?_
  refine c_iload_n (pc := 25) 0 dX2_init_25 rfl ?_
  refine c_new (pc := 26) (CC := RX6) (T := TX6) (N := 13) (ci := 6) (fs := [.null, .null, .null, .null, .null, .null, .null, .int 0, .int 0, .int 0, .int 0, .int 0, .int 0]) tyX6 tyX6_ok inX6 wnw_RX2_11 rfl (fun j hj => match j, hj with | 0, _ => rfl | 1, _ => rfl | 2, _ => rfl | 3, _ => rfl | 4, _ => rfl | 5, _ => rfl | 6, _ => rfl | 7, _ => rfl | 8, _ => rfl | 9, _ => rfl | 10, _ => rfl | 11, _ => rfl | 12, _ => rfl | j + 13, h => absurd h (by omega)) (Nat.le_of_ble_eq_true rfl) (Nat.le_of_ble_eq_true rfl) dX2_init_26 (fun q1 => ?_)
  refine c_dup (pc := 29) dX2_init_29 rfl ?_
  refine c_call (pc := 30) (W0 := (q, .inr (2, [.ref qa, .int 0, .int 0])) :: (qa, .inl (wT G 5, 8, .inr (.inr (.inr (.inr (fun _ => none)))))) :: []) (kX6_init (q := q1)) rfl wn_RX2_17 rfl md_X6_init (Nat.le_of_ble_eq_true rfl) (Nat.le_of_ble_eq_true rfl) (Nat.le_of_ble_eq_true rfl) (Nat.le_of_ble_eq_true rfl) (Nat.le_of_ble_eq_true rfl) dX2_init_30 (fun w1 hp => ?_)
  obtain ⟨ad1, h1, rfl⟩ := hp
  subst h1
  refine c_eq (ws1 := (q, .inr (2, [.ref qa, .int 0, .int 0])) :: (qa, .inl (wT G 5, 8, .inr (.inr (.inr (.inr (fun _ => none)))))) :: uc (gA G ad1) 0 6 Z0) l_app02 ?_
  refine c_ast (pc := 33) (ws1 := (q, .inr (2, [.ref qa, .int 0, .int 0])) :: (qa, .inl (wT G 5, 8, .inr (.inr (.inr (.inr (va_up (fun _ => none) 0 (some (ad1 0)))))))) :: uc (gA G ad1) 0 6 Z0) 1 2 l_get1 rfl rfl rfl (by decide) l_set1 dX2_init_33 ?_
  refine c_iinc (pc := 34) 0 (1 : Int32) [(1, _), (0, _)] dX2_init_34 rfl (by decide) (Nat.le_of_ble_eq_true rfl) rfl ?_
  refine c_goto (pc := 37) 15 dX2_init_37 (by decide) ?_
  refine c_iload_n (pc := 15) 0 dX2_init_15 rfl ?_
  refine c_bipush (pc := 16) (8 : Int32) dX2_init_16 cb_8 ?_
  refine c_icmp_geN (pc := 18) 40 dX2_init_18 (by decide) (by decide) ?_
  refine c_aload_n (pc := 21) 1 dX2_init_21 rfl ?_
  refine c_get (pc := 22) (T := TX2) 0 0 wf_RX2_13 inX2 rfl (by decide) rfl l_get0 rfl dX2_init_22 ?_
  refine c_iload_n (pc := 25) 0 dX2_init_25 rfl ?_
  refine c_new (pc := 26) (CC := RX6) (T := TX6) (N := 13) (ci := 6) (fs := [.null, .null, .null, .null, .null, .null, .null, .int 0, .int 0, .int 0, .int 0, .int 0, .int 0]) tyX6 tyX6_ok inX6 wnw_RX2_11 rfl (fun j hj => match j, hj with | 0, _ => rfl | 1, _ => rfl | 2, _ => rfl | 3, _ => rfl | 4, _ => rfl | 5, _ => rfl | 6, _ => rfl | 7, _ => rfl | 8, _ => rfl | 9, _ => rfl | 10, _ => rfl | 11, _ => rfl | 12, _ => rfl | j + 13, h => absurd h (by omega)) (Nat.le_of_ble_eq_true rfl) (Nat.le_of_ble_eq_true rfl) dX2_init_26 (fun q2 => ?_)
  refine c_dup (pc := 29) dX2_init_29 rfl ?_
  refine c_call (pc := 30) (W0 := (q, .inr (2, [.ref qa, .int 0, .int 0])) :: (qa, .inl (wT G 5, 8, .inr (.inr (.inr (.inr (va_up (fun _ => none) 0 (some (ad1 0)))))))) :: uc (gA G ad1) 0 6 Z0) (kX6_init (q := q2)) rfl wn_RX2_17 rfl md_X6_init (Nat.le_of_ble_eq_true rfl) (Nat.le_of_ble_eq_true rfl) (Nat.le_of_ble_eq_true rfl) (Nat.le_of_ble_eq_true rfl) (Nat.le_of_ble_eq_true rfl) dX2_init_30 (fun w1 hp => ?_)
  obtain ⟨ad2, h2, rfl⟩ := hp
  subst h2
  refine c_eq (ws1 := (q, .inr (2, [.ref qa, .int 0, .int 0])) :: (qa, .inl (wT G 5, 8, .inr (.inr (.inr (.inr (va_up (fun _ => none) 0 (some (ad1 0)))))))) :: (uc (gA G ad1) 0 6 Z0 ++ uc (gA G ad2) 0 6 Z0)) l_app2 ?_
  refine c_ast (pc := 33) (ws1 := (q, .inr (2, [.ref qa, .int 0, .int 0])) :: (qa, .inl (wT G 5, 8, .inr (.inr (.inr (.inr (va_up (va_up (fun _ => none) 0 (some (ad1 0))) 1 (some (ad2 0)))))))) :: (uc (gA G ad1) 0 6 Z0 ++ uc (gA G ad2) 0 6 Z0)) 1 10 l_get1 rfl (l_at 8 (by rfl) rfl) rfl (by decide) l_set1 dX2_init_33 ?_
  refine c_iinc (pc := 34) 0 (2 : Int32) [(1, _), (0, _)] dX2_init_34 rfl (by decide) (Nat.le_of_ble_eq_true rfl) rfl ?_
  refine c_goto (pc := 37) 15 dX2_init_37 (by decide) ?_
  refine c_iload_n (pc := 15) 0 dX2_init_15 rfl ?_
  refine c_bipush (pc := 16) (8 : Int32) dX2_init_16 cb_8 ?_
  refine c_icmp_geN (pc := 18) 40 dX2_init_18 (by decide) (by decide) ?_
  refine c_aload_n (pc := 21) 1 dX2_init_21 rfl ?_
  refine c_get (pc := 22) (T := TX2) 0 0 wf_RX2_13 inX2 rfl (by decide) rfl l_get0 rfl dX2_init_22 ?_
  refine c_iload_n (pc := 25) 0 dX2_init_25 rfl ?_
  refine c_new (pc := 26) (CC := RX6) (T := TX6) (N := 13) (ci := 6) (fs := [.null, .null, .null, .null, .null, .null, .null, .int 0, .int 0, .int 0, .int 0, .int 0, .int 0]) tyX6 tyX6_ok inX6 wnw_RX2_11 rfl (fun j hj => match j, hj with | 0, _ => rfl | 1, _ => rfl | 2, _ => rfl | 3, _ => rfl | 4, _ => rfl | 5, _ => rfl | 6, _ => rfl | 7, _ => rfl | 8, _ => rfl | 9, _ => rfl | 10, _ => rfl | 11, _ => rfl | 12, _ => rfl | j + 13, h => absurd h (by omega)) (Nat.le_of_ble_eq_true rfl) (Nat.le_of_ble_eq_true rfl) dX2_init_26 (fun q3 => ?_)
  refine c_dup (pc := 29) dX2_init_29 rfl ?_
  refine c_call (pc := 30) (W0 := (q, .inr (2, [.ref qa, .int 0, .int 0])) :: (qa, .inl (wT G 5, 8, .inr (.inr (.inr (.inr (va_up (va_up (fun _ => none) 0 (some (ad1 0))) 1 (some (ad2 0)))))))) :: (uc (gA G ad1) 0 6 Z0 ++ uc (gA G ad2) 0 6 Z0)) (kX6_init (q := q3)) rfl wn_RX2_17 rfl md_X6_init (Nat.le_of_ble_eq_true rfl) (Nat.le_of_ble_eq_true rfl) (Nat.le_of_ble_eq_true rfl) (Nat.le_of_ble_eq_true rfl) (Nat.le_of_ble_eq_true rfl) dX2_init_30 (fun w1 hp => ?_)
  obtain ⟨ad3, h3, rfl⟩ := hp
  subst h3
  refine c_eq (ws1 := (q, .inr (2, [.ref qa, .int 0, .int 0])) :: (qa, .inl (wT G 5, 8, .inr (.inr (.inr (.inr (va_up (va_up (fun _ => none) 0 (some (ad1 0))) 1 (some (ad2 0)))))))) :: ((uc (gA G ad1) 0 6 Z0 ++ uc (gA G ad2) 0 6 Z0) ++ uc (gA G ad3) 0 6 Z0)) l_app2 ?_
  refine c_ast (pc := 33) (ws1 := (q, .inr (2, [.ref qa, .int 0, .int 0])) :: (qa, .inl (wT G 5, 8, .inr (.inr (.inr (.inr (va_up (va_up (va_up (fun _ => none) 0 (some (ad1 0))) 1 (some (ad2 0))) 2 (some (ad3 0)))))))) :: ((uc (gA G ad1) 0 6 Z0 ++ uc (gA G ad2) 0 6 Z0) ++ uc (gA G ad3) 0 6 Z0)) 1 18 l_get1 rfl (l_at 16 (by rfl) rfl) rfl (by decide) l_set1 dX2_init_33 ?_
  refine c_iinc (pc := 34) 0 (3 : Int32) [(1, _), (0, _)] dX2_init_34 rfl (by decide) (Nat.le_of_ble_eq_true rfl) rfl ?_
  refine c_goto (pc := 37) 15 dX2_init_37 (by decide) ?_
  refine c_iload_n (pc := 15) 0 dX2_init_15 rfl ?_
  refine c_bipush (pc := 16) (8 : Int32) dX2_init_16 cb_8 ?_
  refine c_icmp_geN (pc := 18) 40 dX2_init_18 (by decide) (by decide) ?_
  refine c_aload_n (pc := 21) 1 dX2_init_21 rfl ?_
  refine c_get (pc := 22) (T := TX2) 0 0 wf_RX2_13 inX2 rfl (by decide) rfl l_get0 rfl dX2_init_22 ?_
  refine c_iload_n (pc := 25) 0 dX2_init_25 rfl ?_
  refine c_new (pc := 26) (CC := RX6) (T := TX6) (N := 13) (ci := 6) (fs := [.null, .null, .null, .null, .null, .null, .null, .int 0, .int 0, .int 0, .int 0, .int 0, .int 0]) tyX6 tyX6_ok inX6 wnw_RX2_11 rfl (fun j hj => match j, hj with | 0, _ => rfl | 1, _ => rfl | 2, _ => rfl | 3, _ => rfl | 4, _ => rfl | 5, _ => rfl | 6, _ => rfl | 7, _ => rfl | 8, _ => rfl | 9, _ => rfl | 10, _ => rfl | 11, _ => rfl | 12, _ => rfl | j + 13, h => absurd h (by omega)) (Nat.le_of_ble_eq_true rfl) (Nat.le_of_ble_eq_true rfl) dX2_init_26 (fun q4 => ?_)
  refine c_dup (pc := 29) dX2_init_29 rfl ?_
  refine c_call (pc := 30) (W0 := (q, .inr (2, [.ref qa, .int 0, .int 0])) :: (qa, .inl (wT G 5, 8, .inr (.inr (.inr (.inr (va_up (va_up (va_up (fun _ => none) 0 (some (ad1 0))) 1 (some (ad2 0))) 2 (some (ad3 0)))))))) :: ((uc (gA G ad1) 0 6 Z0 ++ uc (gA G ad2) 0 6 Z0) ++ uc (gA G ad3) 0 6 Z0)) (kX6_init (q := q4)) rfl wn_RX2_17 rfl md_X6_init (Nat.le_of_ble_eq_true rfl) (Nat.le_of_ble_eq_true rfl) (Nat.le_of_ble_eq_true rfl) (Nat.le_of_ble_eq_true rfl) (Nat.le_of_ble_eq_true rfl) dX2_init_30 (fun w1 hp => ?_)
  obtain ⟨ad4, h4, rfl⟩ := hp
  subst h4
  refine c_eq (ws1 := (q, .inr (2, [.ref qa, .int 0, .int 0])) :: (qa, .inl (wT G 5, 8, .inr (.inr (.inr (.inr (va_up (va_up (va_up (fun _ => none) 0 (some (ad1 0))) 1 (some (ad2 0))) 2 (some (ad3 0)))))))) :: (((uc (gA G ad1) 0 6 Z0 ++ uc (gA G ad2) 0 6 Z0) ++ uc (gA G ad3) 0 6 Z0) ++ uc (gA G ad4) 0 6 Z0)) l_app2 ?_
  refine c_ast (pc := 33) (ws1 := (q, .inr (2, [.ref qa, .int 0, .int 0])) :: (qa, .inl (wT G 5, 8, .inr (.inr (.inr (.inr (va_up (va_up (va_up (va_up (fun _ => none) 0 (some (ad1 0))) 1 (some (ad2 0))) 2 (some (ad3 0))) 3 (some (ad4 0)))))))) :: (((uc (gA G ad1) 0 6 Z0 ++ uc (gA G ad2) 0 6 Z0) ++ uc (gA G ad3) 0 6 Z0) ++ uc (gA G ad4) 0 6 Z0)) 1 26 l_get1 rfl (l_at 24 (by rfl) rfl) rfl (by decide) l_set1 dX2_init_33 ?_
  refine c_iinc (pc := 34) 0 (4 : Int32) [(1, _), (0, _)] dX2_init_34 rfl (by decide) (Nat.le_of_ble_eq_true rfl) rfl ?_
  refine c_goto (pc := 37) 15 dX2_init_37 (by decide) ?_
  refine c_iload_n (pc := 15) 0 dX2_init_15 rfl ?_
  refine c_bipush (pc := 16) (8 : Int32) dX2_init_16 cb_8 ?_
  refine c_icmp_geN (pc := 18) 40 dX2_init_18 (by decide) (by decide) ?_
  refine c_aload_n (pc := 21) 1 dX2_init_21 rfl ?_
  refine c_get (pc := 22) (T := TX2) 0 0 wf_RX2_13 inX2 rfl (by decide) rfl l_get0 rfl dX2_init_22 ?_
  refine c_iload_n (pc := 25) 0 dX2_init_25 rfl ?_
  refine c_new (pc := 26) (CC := RX6) (T := TX6) (N := 13) (ci := 6) (fs := [.null, .null, .null, .null, .null, .null, .null, .int 0, .int 0, .int 0, .int 0, .int 0, .int 0]) tyX6 tyX6_ok inX6 wnw_RX2_11 rfl (fun j hj => match j, hj with | 0, _ => rfl | 1, _ => rfl | 2, _ => rfl | 3, _ => rfl | 4, _ => rfl | 5, _ => rfl | 6, _ => rfl | 7, _ => rfl | 8, _ => rfl | 9, _ => rfl | 10, _ => rfl | 11, _ => rfl | 12, _ => rfl | j + 13, h => absurd h (by omega)) (Nat.le_of_ble_eq_true rfl) (Nat.le_of_ble_eq_true rfl) dX2_init_26 (fun q5 => ?_)
  refine c_dup (pc := 29) dX2_init_29 rfl ?_
  refine c_call (pc := 30) (W0 := (q, .inr (2, [.ref qa, .int 0, .int 0])) :: (qa, .inl (wT G 5, 8, .inr (.inr (.inr (.inr (va_up (va_up (va_up (va_up (fun _ => none) 0 (some (ad1 0))) 1 (some (ad2 0))) 2 (some (ad3 0))) 3 (some (ad4 0)))))))) :: (((uc (gA G ad1) 0 6 Z0 ++ uc (gA G ad2) 0 6 Z0) ++ uc (gA G ad3) 0 6 Z0) ++ uc (gA G ad4) 0 6 Z0)) (kX6_init (q := q5)) rfl wn_RX2_17 rfl md_X6_init (Nat.le_of_ble_eq_true rfl) (Nat.le_of_ble_eq_true rfl) (Nat.le_of_ble_eq_true rfl) (Nat.le_of_ble_eq_true rfl) (Nat.le_of_ble_eq_true rfl) dX2_init_30 (fun w1 hp => ?_)
  obtain ⟨ad5, h5, rfl⟩ := hp
  subst h5
  refine c_eq (ws1 := (q, .inr (2, [.ref qa, .int 0, .int 0])) :: (qa, .inl (wT G 5, 8, .inr (.inr (.inr (.inr (va_up (va_up (va_up (va_up (fun _ => none) 0 (some (ad1 0))) 1 (some (ad2 0))) 2 (some (ad3 0))) 3 (some (ad4 0)))))))) :: ((((uc (gA G ad1) 0 6 Z0 ++ uc (gA G ad2) 0 6 Z0) ++ uc (gA G ad3) 0 6 Z0) ++ uc (gA G ad4) 0 6 Z0) ++ uc (gA G ad5) 0 6 Z0)) l_app2 ?_
  refine c_ast (pc := 33) (ws1 := (q, .inr (2, [.ref qa, .int 0, .int 0])) :: (qa, .inl (wT G 5, 8, .inr (.inr (.inr (.inr (va_up (va_up (va_up (va_up (va_up (fun _ => none) 0 (some (ad1 0))) 1 (some (ad2 0))) 2 (some (ad3 0))) 3 (some (ad4 0))) 4 (some (ad5 0)))))))) :: ((((uc (gA G ad1) 0 6 Z0 ++ uc (gA G ad2) 0 6 Z0) ++ uc (gA G ad3) 0 6 Z0) ++ uc (gA G ad4) 0 6 Z0) ++ uc (gA G ad5) 0 6 Z0)) 1 34 l_get1 rfl (l_at 32 (by rfl) rfl) rfl (by decide) l_set1 dX2_init_33 ?_
  refine c_iinc (pc := 34) 0 (5 : Int32) [(1, _), (0, _)] dX2_init_34 rfl (by decide) (Nat.le_of_ble_eq_true rfl) rfl ?_
  refine c_goto (pc := 37) 15 dX2_init_37 (by decide) ?_
  refine c_iload_n (pc := 15) 0 dX2_init_15 rfl ?_
  refine c_bipush (pc := 16) (8 : Int32) dX2_init_16 cb_8 ?_
  refine c_icmp_geN (pc := 18) 40 dX2_init_18 (by decide) (by decide) ?_
  refine c_aload_n (pc := 21) 1 dX2_init_21 rfl ?_
  refine c_get (pc := 22) (T := TX2) 0 0 wf_RX2_13 inX2 rfl (by decide) rfl l_get0 rfl dX2_init_22 ?_
  refine c_iload_n (pc := 25) 0 dX2_init_25 rfl ?_
  refine c_new (pc := 26) (CC := RX6) (T := TX6) (N := 13) (ci := 6) (fs := [.null, .null, .null, .null, .null, .null, .null, .int 0, .int 0, .int 0, .int 0, .int 0, .int 0]) tyX6 tyX6_ok inX6 wnw_RX2_11 rfl (fun j hj => match j, hj with | 0, _ => rfl | 1, _ => rfl | 2, _ => rfl | 3, _ => rfl | 4, _ => rfl | 5, _ => rfl | 6, _ => rfl | 7, _ => rfl | 8, _ => rfl | 9, _ => rfl | 10, _ => rfl | 11, _ => rfl | 12, _ => rfl | j + 13, h => absurd h (by omega)) (Nat.le_of_ble_eq_true rfl) (Nat.le_of_ble_eq_true rfl) dX2_init_26 (fun q6 => ?_)
  refine c_dup (pc := 29) dX2_init_29 rfl ?_
  refine c_call (pc := 30) (W0 := (q, .inr (2, [.ref qa, .int 0, .int 0])) :: (qa, .inl (wT G 5, 8, .inr (.inr (.inr (.inr (va_up (va_up (va_up (va_up (va_up (fun _ => none) 0 (some (ad1 0))) 1 (some (ad2 0))) 2 (some (ad3 0))) 3 (some (ad4 0))) 4 (some (ad5 0)))))))) :: ((((uc (gA G ad1) 0 6 Z0 ++ uc (gA G ad2) 0 6 Z0) ++ uc (gA G ad3) 0 6 Z0) ++ uc (gA G ad4) 0 6 Z0) ++ uc (gA G ad5) 0 6 Z0)) (kX6_init (q := q6)) rfl wn_RX2_17 rfl md_X6_init (Nat.le_of_ble_eq_true rfl) (Nat.le_of_ble_eq_true rfl) (Nat.le_of_ble_eq_true rfl) (Nat.le_of_ble_eq_true rfl) (Nat.le_of_ble_eq_true rfl) dX2_init_30 (fun w1 hp => ?_)
  obtain ⟨ad6, h6, rfl⟩ := hp
  subst h6
  refine c_eq (ws1 := (q, .inr (2, [.ref qa, .int 0, .int 0])) :: (qa, .inl (wT G 5, 8, .inr (.inr (.inr (.inr (va_up (va_up (va_up (va_up (va_up (fun _ => none) 0 (some (ad1 0))) 1 (some (ad2 0))) 2 (some (ad3 0))) 3 (some (ad4 0))) 4 (some (ad5 0)))))))) :: (((((uc (gA G ad1) 0 6 Z0 ++ uc (gA G ad2) 0 6 Z0) ++ uc (gA G ad3) 0 6 Z0) ++ uc (gA G ad4) 0 6 Z0) ++ uc (gA G ad5) 0 6 Z0) ++ uc (gA G ad6) 0 6 Z0)) l_app2 ?_
  refine c_ast (pc := 33) (ws1 := (q, .inr (2, [.ref qa, .int 0, .int 0])) :: (qa, .inl (wT G 5, 8, .inr (.inr (.inr (.inr (va_up (va_up (va_up (va_up (va_up (va_up (fun _ => none) 0 (some (ad1 0))) 1 (some (ad2 0))) 2 (some (ad3 0))) 3 (some (ad4 0))) 4 (some (ad5 0))) 5 (some (ad6 0)))))))) :: (((((uc (gA G ad1) 0 6 Z0 ++ uc (gA G ad2) 0 6 Z0) ++ uc (gA G ad3) 0 6 Z0) ++ uc (gA G ad4) 0 6 Z0) ++ uc (gA G ad5) 0 6 Z0) ++ uc (gA G ad6) 0 6 Z0)) 1 42 l_get1 rfl (l_at 40 (by rfl) rfl) rfl (by decide) l_set1 dX2_init_33 ?_
  refine c_iinc (pc := 34) 0 (6 : Int32) [(1, _), (0, _)] dX2_init_34 rfl (by decide) (Nat.le_of_ble_eq_true rfl) rfl ?_
  refine c_goto (pc := 37) 15 dX2_init_37 (by decide) ?_
  refine c_iload_n (pc := 15) 0 dX2_init_15 rfl ?_
  refine c_bipush (pc := 16) (8 : Int32) dX2_init_16 cb_8 ?_
  refine c_icmp_geN (pc := 18) 40 dX2_init_18 (by decide) (by decide) ?_
  refine c_aload_n (pc := 21) 1 dX2_init_21 rfl ?_
  refine c_get (pc := 22) (T := TX2) 0 0 wf_RX2_13 inX2 rfl (by decide) rfl l_get0 rfl dX2_init_22 ?_
  refine c_iload_n (pc := 25) 0 dX2_init_25 rfl ?_
  refine c_new (pc := 26) (CC := RX6) (T := TX6) (N := 13) (ci := 6) (fs := [.null, .null, .null, .null, .null, .null, .null, .int 0, .int 0, .int 0, .int 0, .int 0, .int 0]) tyX6 tyX6_ok inX6 wnw_RX2_11 rfl (fun j hj => match j, hj with | 0, _ => rfl | 1, _ => rfl | 2, _ => rfl | 3, _ => rfl | 4, _ => rfl | 5, _ => rfl | 6, _ => rfl | 7, _ => rfl | 8, _ => rfl | 9, _ => rfl | 10, _ => rfl | 11, _ => rfl | 12, _ => rfl | j + 13, h => absurd h (by omega)) (Nat.le_of_ble_eq_true rfl) (Nat.le_of_ble_eq_true rfl) dX2_init_26 (fun q7 => ?_)
  refine c_dup (pc := 29) dX2_init_29 rfl ?_
  refine c_call (pc := 30) (W0 := (q, .inr (2, [.ref qa, .int 0, .int 0])) :: (qa, .inl (wT G 5, 8, .inr (.inr (.inr (.inr (va_up (va_up (va_up (va_up (va_up (va_up (fun _ => none) 0 (some (ad1 0))) 1 (some (ad2 0))) 2 (some (ad3 0))) 3 (some (ad4 0))) 4 (some (ad5 0))) 5 (some (ad6 0)))))))) :: (((((uc (gA G ad1) 0 6 Z0 ++ uc (gA G ad2) 0 6 Z0) ++ uc (gA G ad3) 0 6 Z0) ++ uc (gA G ad4) 0 6 Z0) ++ uc (gA G ad5) 0 6 Z0) ++ uc (gA G ad6) 0 6 Z0)) (kX6_init (q := q7)) rfl wn_RX2_17 rfl md_X6_init (Nat.le_of_ble_eq_true rfl) (Nat.le_of_ble_eq_true rfl) (Nat.le_of_ble_eq_true rfl) (Nat.le_of_ble_eq_true rfl) (Nat.le_of_ble_eq_true rfl) dX2_init_30 (fun w1 hp => ?_)
  obtain ⟨ad7, h7, rfl⟩ := hp
  subst h7
  refine c_eq (ws1 := (q, .inr (2, [.ref qa, .int 0, .int 0])) :: (qa, .inl (wT G 5, 8, .inr (.inr (.inr (.inr (va_up (va_up (va_up (va_up (va_up (va_up (fun _ => none) 0 (some (ad1 0))) 1 (some (ad2 0))) 2 (some (ad3 0))) 3 (some (ad4 0))) 4 (some (ad5 0))) 5 (some (ad6 0)))))))) :: ((((((uc (gA G ad1) 0 6 Z0 ++ uc (gA G ad2) 0 6 Z0) ++ uc (gA G ad3) 0 6 Z0) ++ uc (gA G ad4) 0 6 Z0) ++ uc (gA G ad5) 0 6 Z0) ++ uc (gA G ad6) 0 6 Z0) ++ uc (gA G ad7) 0 6 Z0)) l_app2 ?_
  refine c_ast (pc := 33) (ws1 := (q, .inr (2, [.ref qa, .int 0, .int 0])) :: (qa, .inl (wT G 5, 8, .inr (.inr (.inr (.inr (va_up (va_up (va_up (va_up (va_up (va_up (va_up (fun _ => none) 0 (some (ad1 0))) 1 (some (ad2 0))) 2 (some (ad3 0))) 3 (some (ad4 0))) 4 (some (ad5 0))) 5 (some (ad6 0))) 6 (some (ad7 0)))))))) :: ((((((uc (gA G ad1) 0 6 Z0 ++ uc (gA G ad2) 0 6 Z0) ++ uc (gA G ad3) 0 6 Z0) ++ uc (gA G ad4) 0 6 Z0) ++ uc (gA G ad5) 0 6 Z0) ++ uc (gA G ad6) 0 6 Z0) ++ uc (gA G ad7) 0 6 Z0)) 1 50 l_get1 rfl (l_at 48 (by rfl) rfl) rfl (by decide) l_set1 dX2_init_33 ?_
  refine c_iinc (pc := 34) 0 (7 : Int32) [(1, _), (0, _)] dX2_init_34 rfl (by decide) (Nat.le_of_ble_eq_true rfl) rfl ?_
  refine c_goto (pc := 37) 15 dX2_init_37 (by decide) ?_
  refine c_iload_n (pc := 15) 0 dX2_init_15 rfl ?_
  refine c_bipush (pc := 16) (8 : Int32) dX2_init_16 cb_8 ?_
  refine c_icmp_geN (pc := 18) 40 dX2_init_18 (by decide) (by decide) ?_
  refine c_aload_n (pc := 21) 1 dX2_init_21 rfl ?_
  refine c_get (pc := 22) (T := TX2) 0 0 wf_RX2_13 inX2 rfl (by decide) rfl l_get0 rfl dX2_init_22 ?_
  refine c_iload_n (pc := 25) 0 dX2_init_25 rfl ?_
  refine c_new (pc := 26) (CC := RX6) (T := TX6) (N := 13) (ci := 6) (fs := [.null, .null, .null, .null, .null, .null, .null, .int 0, .int 0, .int 0, .int 0, .int 0, .int 0]) tyX6 tyX6_ok inX6 wnw_RX2_11 rfl (fun j hj => match j, hj with | 0, _ => rfl | 1, _ => rfl | 2, _ => rfl | 3, _ => rfl | 4, _ => rfl | 5, _ => rfl | 6, _ => rfl | 7, _ => rfl | 8, _ => rfl | 9, _ => rfl | 10, _ => rfl | 11, _ => rfl | 12, _ => rfl | j + 13, h => absurd h (by omega)) (Nat.le_of_ble_eq_true rfl) (Nat.le_of_ble_eq_true rfl) dX2_init_26 (fun q8 => ?_)
  refine c_dup (pc := 29) dX2_init_29 rfl ?_
  refine c_call (pc := 30) (W0 := (q, .inr (2, [.ref qa, .int 0, .int 0])) :: (qa, .inl (wT G 5, 8, .inr (.inr (.inr (.inr (va_up (va_up (va_up (va_up (va_up (va_up (va_up (fun _ => none) 0 (some (ad1 0))) 1 (some (ad2 0))) 2 (some (ad3 0))) 3 (some (ad4 0))) 4 (some (ad5 0))) 5 (some (ad6 0))) 6 (some (ad7 0)))))))) :: ((((((uc (gA G ad1) 0 6 Z0 ++ uc (gA G ad2) 0 6 Z0) ++ uc (gA G ad3) 0 6 Z0) ++ uc (gA G ad4) 0 6 Z0) ++ uc (gA G ad5) 0 6 Z0) ++ uc (gA G ad6) 0 6 Z0) ++ uc (gA G ad7) 0 6 Z0)) (kX6_init (q := q8)) rfl wn_RX2_17 rfl md_X6_init (Nat.le_of_ble_eq_true rfl) (Nat.le_of_ble_eq_true rfl) (Nat.le_of_ble_eq_true rfl) (Nat.le_of_ble_eq_true rfl) (Nat.le_of_ble_eq_true rfl) dX2_init_30 (fun w1 hp => ?_)
  obtain ⟨ad8, h8, rfl⟩ := hp
  subst h8
  refine c_eq (ws1 := (q, .inr (2, [.ref qa, .int 0, .int 0])) :: (qa, .inl (wT G 5, 8, .inr (.inr (.inr (.inr (va_up (va_up (va_up (va_up (va_up (va_up (va_up (fun _ => none) 0 (some (ad1 0))) 1 (some (ad2 0))) 2 (some (ad3 0))) 3 (some (ad4 0))) 4 (some (ad5 0))) 5 (some (ad6 0))) 6 (some (ad7 0)))))))) :: (((((((uc (gA G ad1) 0 6 Z0 ++ uc (gA G ad2) 0 6 Z0) ++ uc (gA G ad3) 0 6 Z0) ++ uc (gA G ad4) 0 6 Z0) ++ uc (gA G ad5) 0 6 Z0) ++ uc (gA G ad6) 0 6 Z0) ++ uc (gA G ad7) 0 6 Z0) ++ uc (gA G ad8) 0 6 Z0)) l_app2 ?_
  refine c_ast (pc := 33) (ws1 := (q, .inr (2, [.ref qa, .int 0, .int 0])) :: (qa, .inl (wT G 5, 8, .inr (.inr (.inr (.inr (va_up (va_up (va_up (va_up (va_up (va_up (va_up (va_up (fun _ => none) 0 (some (ad1 0))) 1 (some (ad2 0))) 2 (some (ad3 0))) 3 (some (ad4 0))) 4 (some (ad5 0))) 5 (some (ad6 0))) 6 (some (ad7 0))) 7 (some (ad8 0)))))))) :: (((((((uc (gA G ad1) 0 6 Z0 ++ uc (gA G ad2) 0 6 Z0) ++ uc (gA G ad3) 0 6 Z0) ++ uc (gA G ad4) 0 6 Z0) ++ uc (gA G ad5) 0 6 Z0) ++ uc (gA G ad6) 0 6 Z0) ++ uc (gA G ad7) 0 6 Z0) ++ uc (gA G ad8) 0 6 Z0)) 1 58 l_get1 rfl (l_at 56 (by rfl) rfl) rfl (by decide) l_set1 dX2_init_33 ?_
  refine c_iinc (pc := 34) 0 (8 : Int32) [(1, _), (0, _)] dX2_init_34 rfl (by decide) (Nat.le_of_ble_eq_true rfl) rfl ?_
  refine c_goto (pc := 37) 15 dX2_init_37 (by decide) ?_
  refine c_iload_n (pc := 15) 0 dX2_init_15 rfl ?_
  refine c_bipush (pc := 16) (8 : Int32) dX2_init_16 cb_8 ?_
  refine c_icmp_geY (pc := 18) 40 dX2_init_18 (by decide) (by decide) ?_
  obtain ⟨sd, hsd⟩ : ∃ sd : Nat → Nat → Nat, sd = (fun j => match j with | 0 => ad1 | 1 => ad2 | 2 => ad3 | 3 => ad4 | 4 => ad5 | 5 => ad6 | 6 => ad7 | 7 => ad8 | _ => ad1) := ⟨_, rfl⟩
  refine c_eqv (fun j => some (sd j 0)) rfl (fun j hj => by rw [hsd]; match j, hj with | 0, _ => rfl | 1, _ => rfl | 2, _ => rfl | 3, _ => rfl | 4, _ => rfl | 5, _ => rfl | 6, _ => rfl | 7, _ => rfl | j + 8, h => exact absurd h (by omega)) ?_
  exact hret _ 40 _ ⟨fun i => match i with | 0 => q | _ => qa, sd, rfl, by rw [hsd]; rfl⟩ dX2_init_40
