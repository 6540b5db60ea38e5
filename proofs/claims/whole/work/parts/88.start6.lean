theorem wnw_RL_8 : Cond.classLink RL 8 RX10 ∈ gw ∧ Cond.instantiable RX10 16 ∈ gw ∧ Cond.initialized RX10 ∈ gw := ⟨gw_at 135 (by decide +kernel) rfl, gw_at 136 (by decide +kernel) rfl, gw_at 115 (by decide +kernel) rfl⟩
theorem wn_RL_18 : (Cond.methodLink RL 18 yX10_init ∈ gw ∨ ∃ host, Cond.methodLinkNest RL 18 yX10_init host ∈ lw_tbl) ∧ Cond.instanceMethod yX10_init ∈ gw ∧ Cond.initialized yX10_init.cls ∈ gw ∧ Cond.code yX10_init cX10_init 2 none ∈ gw := ⟨Or.inl (gw_at 137 (by decide +kernel) rfl), gw_at 138 (by decide +kernel) rfl, gw_at 115 (by decide +kernel) rfl, gw_at 139 (by decide +kernel) rfl⟩
theorem md_X10_init : yX10_init.cls ≠ "java/lang/invoke/MethodHandle" ∧ yX10_init.cls ≠ "java/lang/invoke/VarHandle" ∧ (parseMethodDescriptor yX10_init.desc).map (fun d => d.parameters.length) = some 0 := by decide +kernel
theorem wnw_RL_19 : Cond.classLink RL 19 RX11 ∈ gw ∧ Cond.instantiable RX11 49 ∈ gw ∧ Cond.initialized RX11 ∈ gw := ⟨gw_at 1350 (by decide +kernel) rfl, gw_at 1344 (by decide +kernel) rfl, gw_at 125 (by decide +kernel) rfl⟩
theorem wn_RL_21 : Cond.methodLink RL 21 yX11_init ∈ gw ∧ Cond.instanceMethod yX11_init ∈ gw ∧ Cond.initialized yX11_init.cls ∈ gw ∧ Cond.code yX11_init cX11_init 2 none ∈ gw := ⟨gw_at 1351 (by decide +kernel) rfl, gw_at 1352 (by decide +kernel) rfl, gw_at 125 (by decide +kernel) rfl, gw_at 1353 (by decide +kernel) rfl⟩
theorem md_X11_init : yX11_init.cls ≠ "java/lang/invoke/MethodHandle" ∧ yX11_init.cls ≠ "java/lang/invoke/VarHandle" ∧ (parseMethodDescriptor yX11_init.desc).map (fun d => d.parameters.length) = some 0 := by decide +kernel
theorem c_gB {cc : ByteArray} {own : String} {fr lo nL MC MS : Nat} {G : Wc} {A : Nat → Prop} {Γ : Cx} {ws : va_W} {ca sl pc : Nat} {L : List (Nat × Value)} {st : List Value} (ad : Nat → Nat → Nat) (kk : C cc own fr lo nL MC MS (gB G ad) A Γ ws ca sl pc L st) : C cc own fr lo nL MC MS G A Γ ws ca sl pc L st := by
  intro ok H locs ls hP hD hS hl
  exact kk ok H locs ls hP hD hS hl
/-- the reference's constructor is called -/
theorem c_callM {G : Wc} {Γ : Cx} {ws : va_W} {ca sl pc q : Nat} {L : List (Nat × Value)} {st : List Value} {h : Nat → Ob} {mz : Ob} (hmz : pX11_tail Z0 = some mz) (hws : ws.Perm ((q, mdf) :: u28 G h)) (hst : stF G Γ.1.2.2.2.2 Γ.1.2.2.2.2.heap) (hz : wZ G ≤ Γ.1.2.2.2.2.heap.size) (h1 : ca + 18 ≤ 601024) (h2 : sl + 20854 ≤ 7293034) (hrm : (st.map fun v => v.category).sum ≤ 8) (d : decode cL_law pc = .ok (.invokespecial 21, 3))
    (kk : ∀ (am : Nat → Nat) (n29 : Nat), am 0 = q → C cL_law RL 48 1969 7 601024 7293034 (gM G am n29) (wF G) Γ (allc (gM G am n29) (va_up (va_up h 29 Z0) 28 mz)) (ca + 18) (sl + 20854) (pc + 3) L st) : C cL_law RL 48 1969 7 601024 7293034 G (wF G) Γ ws ca sl pc L (.ref q :: st) := by
  intro ok H locs ls hP hD hS hl
  have ok2 := ok
  obtain ⟨hx, hb, hml, hown, hts, hlk, hRm, hcs, hK, hNw, hL, hA, hAO⟩ := ok
  have hP1 := vaP_perm hws hP
  have hD1 := vaD_perm hws hD
  have hMet := kX11_init (G := G) (q := q) (h := h) hmz
  rw [← hL] at hMet
  have hgood : GoodIn gw (Cond.code yX11_init cX11_init 2 none :: gw) := by
    intro w hw'
    have hmem : w ∈ gw := by
      rcases List.mem_cons.mp hw' with rfl | h
      · exact wn_RL_21.2.2.2
      · exact h
    exact ⟨hmem, good_of_word (gw_good hmem)⟩
  have hpre : PreS Γ.1.2.2.2.2 H (va_Pc [.ref q] (PM G q h)) (.ref q :: []) :=
    ⟨fun a U g mk z => ⟨z.1, z.2.1, z.2.2.1, va_K.moved (Vm.Alike.refl U.vm) z.2.2.2.1, nwAll.same (u := U) rfl z.2.2.2.2.1, stF.moved (Vm.Alike.refl U.vm) z.2.2.2.2.2.1, z.2.2.2.2.2.2.1, fun c hc => va_AO.moved (Vm.Alike.refl U.vm) (z.2.2.2.2.2.2.2 c hc)⟩, fun U hU hW => ⟨rfl, by rw [hU]; exact hP1, hD1, va_K.moved hW.alike hK, nwAll.warm hW hNw, by rw [hU]; exact stF.moved hW.alike (stF.kept hst (fun a h1 h2 => hS.2.1 a h1 h2)), by rw [hU]; exact Nat.le_trans hz hS.1, fun c hc => va_AO.moved hW.alike (hAO c hc)⟩⟩
  have hR2 : (rmC 3 110 18 20854).frames + 1 ≤ Γ.1.2.2.2.1.frames ∧ 8 + (2 + 11) + (rmC 3 110 18 20854).locals ≤ Γ.1.2.2.2.1.locals := ⟨Nat.le_trans (by decide) hRm.1, Nat.le_trans (by decide) hRm.2⟩
  have hrun : va_Run Γ.1.1 Γ.1.2.1 Γ.1.2.2.1 Γ.1.2.2.2.1 Γ.1.2.2.2.2 Γ.2.1.1 Γ.2.1.2.1 Γ.2.1.2.2.1 Γ.2.1.2.2.2.1 Γ.2.1.2.2.2.2 H locs ca sl 18 20854 (F0 Γ.2.1.1 pc ls (.ref q :: st)) st (QM G q h mz #[.ref q]) (wF G) :=
    va_runI (As := []) (rest := st) ⟨hx, hb, hml, hown, hts⟩ hMet (cwI 0 hts hgood rfl rfl rfl (hts _ wn_RL_21.2.2.1) (hts _ wn_RL_21.1) (hts _ wn_RL_21.2.1) rfl md_X11_init hR2) hpre rfl rfl hl.1 rfl (lv_room hrm) d ⟨Nat.le_trans h1 hcs.1, Nat.le_trans h2 hcs.2⟩
  intro T hT X
  obtain ⟨v, st₀, t, T', Ls, h0, X', hLs, e2, e3, ⟨hv, ⟨am, n29, hq, hWd⟩, hF⟩, hgo⟩ := hrun T hT X
  cases hv
  have hF2 := hF
  unfold va_F at hF2
  rw [h0] at hF2
  have hS' : va_S (wF G) Γ.1.2.2.2.2.heap T'.heap (locs ++ Ls) := by
    refine ⟨Nat.le_trans hS.1 (by rw [e2]; exact hF2.1), fun a h1 h2 => by rw [e2, hF2.2 a (Nat.lt_of_lt_of_le h1 hS.1) h2]; exact hS.2.1 a h1 h2, fun a ha => ?_⟩
    rcases List.mem_append.mp ha with h | h
    · exact hS.2.2 a h
    · exact hLs a h
  obtain ⟨t2, a1, b1⟩ := kk am n29 hq ok2 T'.heap (locs ++ Ls) ls (by rw [e2]; exact hWd.1) (hWd.2.2.2.2.1 _) hS' hl T' rfl X'
  exact ⟨t2, hgo t2 a1, b1⟩
theorem ov_same {h : Nat → Ob} : ∀ {us : List (Nat × Ob)}, (∀ q ∈ us, h q.1 = q.2) → ov h us = h
  | [], _ => rfl
  | q :: t, H => by
    show va_up (ov h t) q.1 q.2 = h
    rw [ov_same (fun r hr => H r (List.mem_cons_of_mem _ hr))]
    funext u
    by_cases e : u = q.1
    · rw [e, up_self]; exact (H q List.mem_cons_self).symm
    · rw [up_ne e]
/-- the law's own row is there: from cells to units -/
theorem l_bridge {G : Wc} {Γ : Cx} {h : Nat → Ob} {q29 ca sl pc : Nat} {ws : va_W} {L : List (Nat × Value)} {st : List Value} (us : List (Nat × Ob)) (hws : ws = allc G h ++ [(q29, .inl (wT G 1, 1, .inr (.inl (fun _ => 0))))]) (h29 : h 29 = Z0) (h1 : ca ≤ 601024) (h2 : sl ≤ 7293034) (hst : stF G Γ.1.2.2.2.2 Γ.1.2.2.2.2.heap) (hz : wZ G ≤ Γ.1.2.2.2.2.heap.size) (hus : ∀ q ∈ us, va_up h 29 (sI Z0 1 1) q.1 = q.2) (hnd : nd us)
    (kk : V cL_law RL 48 1969 7 (gM G (wA G 28) q29) (Γ.1, Γ.2.1, (ca, sl, Γ.2.2.1.2.2), va_up h 29 (sI Z0 1 1)) us pc L st) : C cL_law RL 48 1969 7 601024 7293034 G (wF G) Γ ws ca sl pc L st := by
  intro ok H locs ls hP hD hS hl
  obtain ⟨hx, hb, hml, hown, hts, hlk, hRm, hcs, hK, hNw, hL, hA, hAO⟩ := ok
  subst hws
  rw [allc_u28, uc11_0 (S := h 29) (by rw [h29]; rfl), List.append_nil] at hP hD
  have hall : ∀ h1 : Nat → Ob, va_D (wF (gM G (wA G 28) q29)) (allc (gM G (wA G 28) q29) h1) := by
    refine vaD_all (h := h) (S := h 28) (e := .inl (wT G 1, 1, .inr (.inl (fun _ => 0)))) (vaD_congr ?_ hD)
    rw [List.append_assoc, List.map_append, List.map_append, List.map_append, List.map_append, u28_gad]
    rfl
  have hw : va_P (wD G) vwCl (allc (gM G (wA G 28) q29) (ov (va_up h 29 (sI Z0 1 1)) us)) H := by
    rw [ov_same hus, allc_u28, u28_up (h := va_up h 29 (sI Z0 1 1)) (h1 := h) (fun u hu => up_ne (by omega)), up_ne (show (28 : Nat) ≠ 29 by omega), up_self]
    refine vaP_app.mpr ⟨u28_gP (vaP_app.mp (vaP_app.mp hP).1).1, vaP_app.mpr ⟨(vaP_app.mp (vaP_app.mp hP).1).2, ?_⟩⟩
    unfold uc11
    rw [if_pos (show oI (sI Z0 1 1) 1 = 1 from rfl)]
    exact (vaP_app.mp hP).2
  exact kk ⟨hx, hb, hml, hown, hts, hlk, hRm, ⟨Nat.le_trans h1 hcs.1, Nat.le_trans h2 hcs.2⟩, hK, hNw, hst, hall, hz, hL⟩ hnd H locs ls hw hS hl
set_option maxRecDepth 100000 in
set_option maxHeartbeats 4000000 in
/-- from the entry, for every script of at most 3072 ints, the law comes to its end with true -/
theorem whole_start {p : Program} {e : Env} {s : State} {m : MethodId} {below : List Frame} {meth : Method} {c : Code} (l : Launch) (hflags : l.flags = flags0) {b L : Nat} {xs : Nat → Int32} (hL : L ≤ 3072) (C0 : lw_At p s m meth c b L xs) : W p l e room_1 s m #[Value.ref b] below meth c s.heap [] 0 0 (lw_Z below #[Value.ref b] s) (entryFrame m ([Value.ref b] : List Value).toArray 7) := by
  obtain ⟨hx, hb, hr, hml, hown, hts, hX, hbl, hlk, hgv⟩ := C0
  obtain ⟨D, T, hK⟩ := law_K hts
  obtain ⟨E, hE⟩ := law_st hts hgv
  have hNw := law_nw hts hgv
  have hAO := law_ao hts
  have hl := lv_entry [Value.ref b] (n := 7) (Nat.le_of_ble_eq_true rfl)
  have hnt : l.stackTraces = false := by
    unfold Launch.stackTraces
    rw [hflags]
    decide +kernel
  have key : C cL_law RL 48 1969 7 601024 7293034 (l, D, T, fun _ _ => 0, s.heap.size, E) (wF (l, D, T, fun _ _ => 0, s.heap.size, E)) ((p, l, e, room_1, s), (m, #[Value.ref b], below, meth, c), (0, 0, lw_Z below #[Value.ref b] s), fun _ => Z0) [] 0 0 0 [(0, .ref b)] [] := by
    refine c_new (pc := 0) (CC := RX10) (T := TX10) (N := 16) (ci := 9) (fs := [.null, .null, .null, .null, .null, .null, .null, .null, .null, .null, .null, .null, .int 0, .int 0, .int 0, .int 0]) tyX10 tyX10_ok inX10 wnw_RL_8 rfl (fun j hj => match j, hj with | 0, _ => rfl | 1, _ => rfl | 2, _ => rfl | 3, _ => rfl | 4, _ => rfl | 5, _ => rfl | 6, _ => rfl | 7, _ => rfl | 8, _ => rfl | 9, _ => rfl | 10, _ => rfl | 11, _ => rfl | 12, _ => rfl | 13, _ => rfl | 14, _ => rfl | 15, _ => rfl | j + 16, h => absurd h (by omega)) (Nat.le_of_ble_eq_true rfl) (Nat.le_of_ble_eq_true rfl) dL_law_0 (fun q => ?_)
    refine c_dup (pc := 3) dL_law_3 rfl ?_
    refine c_call (pc := 4) (W0 := []) (kX10_init (q := q)) rfl wn_RL_18 rfl md_X10_init (Nat.le_of_ble_eq_true rfl) (Nat.le_of_ble_eq_true rfl) (Nat.le_of_ble_eq_true rfl) (Nat.le_of_ble_eq_true rfl) (Nat.le_of_ble_eq_true rfl) dL_law_4 (fun w1 hp => ?_)
    obtain ⟨ad, h1, rfl⟩ := hp
    subst h1
    refine c_astore_n (pc := 7) [(1, _), (0, _)] dL_law_7 (Nat.le_of_ble_eq_true rfl) rfl ?_
    refine c_gB ad ?_
    refine c_new (pc := 8) (CC := RX11) (T := TX11) (N := 49) (ci := 10) (fs := [.int 0, .null, .int 0, .int 0, .int 0, .int 0, .null, .null, .null, .null, .null, .int 0, .int 0, .int 0, .int 0, .int 0, .int 0, .long 0, .int 0, .int 0, .int 0, .null, .null, .int 0, .int 0, .int 0, .null, .null, .null, .int 0, .int 0, .int 0, .int 0, .null, .int 0, .int 0, .int 0, .null, .int 0, .null, .int 0, .int 0, .int 0, .int 0, .int 0, .null, .null, .null, .null]) tyX11 tyX11_ok inX11 wnw_RL_19 rfl (fun j hj => match j, hj with | 0, _ => rfl | 1, _ => rfl | 2, _ => rfl | 3, _ => rfl | 4, _ => rfl | 5, _ => rfl | 6, _ => rfl | 7, _ => rfl | 8, _ => rfl | 9, _ => rfl | 10, _ => rfl | 11, _ => rfl | 12, _ => rfl | 13, _ => rfl | 14, _ => rfl | 15, _ => rfl | 16, _ => rfl | 17, _ => rfl | 18, _ => rfl | 19, _ => rfl | 20, _ => rfl | 21, _ => rfl | 22, _ => rfl | 23, _ => rfl | 24, _ => rfl | 25, _ => rfl | 26, _ => rfl | 27, _ => rfl | 28, _ => rfl | 29, _ => rfl | 30, _ => rfl | 31, _ => rfl | 32, _ => rfl | 33, _ => rfl | 34, _ => rfl | 35, _ => rfl | 36, _ => rfl | 37, _ => rfl | 38, _ => rfl | 39, _ => rfl | 40, _ => rfl | 41, _ => rfl | 42, _ => rfl | 43, _ => rfl | 44, _ => rfl | 45, _ => rfl | 46, _ => rfl | 47, _ => rfl | 48, _ => rfl | j + 49, h => absurd h (by omega)) (Nat.le_of_ble_eq_true rfl) (Nat.le_of_ble_eq_true rfl) dL_law_8 (fun q => ?_)
    refine c_dup (pc := 11) dL_law_11 rfl ?_
    refine c_callM (pc := 12) (h := hz) mzz_eq (List.perm_append_singleton _ _) (hE _ rfl rfl) (Nat.le_refl _) (Nat.le_of_ble_eq_true rfl) (Nat.le_of_ble_eq_true rfl) (Nat.le_of_ble_eq_true rfl) dL_law_12 (fun am n29 hq => ?_)
    subst hq
    refine c_astore_n (pc := 15) [(2, _), (1, _), (0, _)] dL_law_15 (Nat.le_of_ble_eq_true rfl) rfl ?_
    refine c_iconst (pc := 16) (1 : Int32) dL_law_16 ci_1 ?_
    refine c_newa (pc := 17) (atype := .long) (ty := .long) (t := 1) (N' := 1) (a0 := (1, .inr (.inl (fun _ => 0)))) wac_long rfl rfl ra_long (fun _ => rfl) (by decide) (by decide) (Nat.le_of_ble_eq_true rfl) (Nat.le_of_ble_eq_true rfl) (Nat.le_of_ble_eq_true rfl) dL_law_17 (fun q29 => ?_)
    refine c_astore_n (pc := 19) [(3, _), (2, _), (1, _), (0, _)] dL_law_19 (Nat.le_of_ble_eq_true rfl) rfl ?_
    refine l_bridge (h := va_up (va_up hz 29 Z0) 28 mzz) (q29 := q29) [(0, hz 0), (1, hz 1), (2, hz 2), (3, hz 3), (4, hz 4), (5, hz 5), (8, hz 8), (9, hz 9), (10, hz 10), (11, hz 11), (12, hz 12), (13, hz 13), (14, hz 14), (15, hz 15), (16, hz 16), (17, hz 17), (18, hz 18), (19, hz 19), (20, hz 20), (21, hz 21), (6, hz 6), (7, hz 7), (22, hz 22), (25, hz 25), (23, hz 23), (26, hz 26), (24, hz 24), (27, hz 27), (28, mzz), (29, sI Z0 1 1)] rfl (by rw [up_ne (by omega), up_self]) (Nat.le_of_ble_eq_true rfl) (Nat.le_of_ble_eq_true rfl) (hE _ rfl rfl) (Nat.le_refl _) ?_ (by decide) ?_
    · intro q hq
      simp only [List.mem_cons, List.not_mem_nil, or_false] at hq
      rcases hq with rfl | rfl | rfl | rfl | rfl | rfl | rfl | rfl | rfl | rfl | rfl | rfl | rfl | rfl | rfl | rfl | rfl | rfl | rfl | rfl | rfl | rfl | rfl | rfl | rfl | rfl | rfl | rfl | rfl | rfl <;> rfl
    refine v_iconst (pc := 20) (0 : Int32) dL_law_20 ci_0 ?_
    refine v_istore (pc := 21) [(4, _), (3, _), (2, _), (1, _), (0, _)] dL_law_21 (Nat.le_of_ble_eq_true rfl) rfl ?_
    refine V_sub [4, 3, 2, 1, 0] rfl ?_
    refine wL_law_l23 (xs := xs) (Ln := L) (b := b) 513 ?_ ?_ (K := fun j => hz (14 + j)) (IM := fun k => hz (6 + k)) (IQ := fun k => hz (22 + 3 * k)) (IS := fun k => hz (23 + 3 * k)) (IN := fun k => hz (24 + 3 * k)) (law_0 xs hL)
    · exact ⟨hr, rfl, rfl, hX, hbl, rfl, rfl, hnt⟩
    · exact ⟨(Nat.le_of_ble_eq_true rfl), (Nat.le_of_ble_eq_true rfl)⟩
  have key2 := key ⟨hx, hb, hml, hown, fun w hw => hts w (gw_tbl hw), hlk, ⟨(Nat.le_of_ble_eq_true rfl), (Nat.le_of_ble_eq_true rfl)⟩, ⟨Nat.le_refl _, Nat.le_refl _⟩, hK, hNw, rfl, fun _ h => h, hAO⟩ s.heap [] _ (fun k c hc => by simp at hc) ⟨fun i j a b h1 _ _ => by simp at h1, fun k c hc => by simp at hc⟩ va_S.rf hl
  rw [lg_entry_eq]
  exact key2
