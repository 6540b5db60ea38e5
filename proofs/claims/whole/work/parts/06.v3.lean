theorem range_at {u : Nat} (h : u < 30) : List.range 30 = List.range u ++ u :: List.range' (u + 1) (29 - u) := by
  rw [List.range_eq_range', List.range_eq_range']
  have h1 : List.range' 0 u ++ List.range' (0 + 1 * u) (30 - u) = List.range' 0 (u + (30 - u)) := List.range'_append
  rw [show u + (30 - u) = 30 by omega, show (0 + 1 * u) = u by omega] at h1
  rw [← h1, show 30 - u = (29 - u) + 1 by omega, List.range'_succ]
theorem fm_congr {β : Type} {f g : Nat → List β} : ∀ {l : List Nat}, (∀ x ∈ l, f x = g x) → l.flatMap f = l.flatMap g
  | [], _ => rfl
  | a :: t, h => by
    rw [List.flatMap_cons, List.flatMap_cons, h a List.mem_cons_self, fm_congr (fun x hx => h x (List.mem_cons_of_mem _ hx))]
theorem allc_split (G : Wc) {u : Nat} (hu : u < 30) (h : Nat → Ob) : ∃ pre post : va_W, ∀ S : Ob, allc G (va_up h u S) = pre ++ (uc G u (kd u) S ++ post) := by
  refine ⟨(List.range u).flatMap (fun v => uc G v (kd v) (h v)), (List.range' (u + 1) (29 - u)).flatMap (fun v => uc G v (kd v) (h v)), fun S => ?_⟩
  unfold allc
  rw [range_at hu, List.flatMap_append, List.flatMap_cons, up_self]
  congr 1
  · refine fm_congr fun v hv => ?_
    rw [up_ne (by have := List.mem_range.mp hv; omega)]
  · congr 1
    refine fm_congr fun v hv => ?_
    rw [up_ne (by have := (List.mem_range'_1.mp hv).1; omega)]
theorem up_id {α : Type} {f : Nat → α} {u : Nat} {S : α} (h : f u = S) : va_up f u S = f := by
  funext j
  unfold va_up
  split
  · next e => rw [e, h]
  · rfl
theorem allc_set {G : Wc} {h : Nat → Ob} {u k j a : Nat} {S : Ob} {e : va_E} (hu : u < 30) (hk : kd u = k) (hS : h u = S) (hj : (uc G u k S)[j]? = some (a, e)) :
    ∃ q0 : Nat, (allc G h)[q0]? = some (a, e) ∧ ∀ (S' : Ob) (e' : va_E), uc G u k S' = (uc G u k S).set j (a, e') → allc G (va_up h u S') = (allc G h).set q0 (a, e') := by
  subst hk
  obtain ⟨pre, post, hp⟩ := allc_split G hu h
  have h0 : allc G h = pre ++ (uc G u (kd u) S ++ post) := by rw [← hp S, up_id hS]
  have hjl : j < (uc G u (kd u) S).length := (List.getElem?_eq_some_iff.mp hj).1
  refine ⟨pre.length + j, ?_, fun S' e' he => ?_⟩
  · rw [h0, List.getElem?_append_right (by omega), Nat.add_sub_cancel_left, List.getElem?_append_left hjl]
    exact hj
  · rw [hp S', h0, List.set_append_right _ _ (by omega), Nat.add_sub_cancel_left, List.set_append_left _ _ hjl, he]
theorem allc_get {G : Wc} {h : Nat → Ob} {u k j : Nat} {S : Ob} {q : Nat × va_E} (hu : u < 30) (hk : kd u = k) (hS : h u = S) (hj : (uc G u k S)[j]? = some q) : ∃ q0 : Nat, (allc G h)[q0]? = some q := by
  obtain ⟨a, e⟩ := q
  obtain ⟨q0, h1, -⟩ := allc_set hu hk hS hj
  exact ⟨q0, h1⟩
def inB (i : Int32) (n : Nat) : Bool := decide (¬ (i < 0 ∨ n ≤ i.toNatClampNeg))
theorem inB_in {i : Int32} {n : Nat} (h : inB i n = true) : vp_in i n := by
  have h2 : ¬ (i < 0 ∨ n ≤ i.toNatClampNeg) := of_decide_eq_true h
  exact h2
def z01 (v : Int32) : Bool := decide (v = 0) || decide (v = 1)
theorem z01_nar {v : Int32} (h : z01 v = true) : narrow .boolean (.int v) = .int v := by
  unfold z01 at h
  rw [Bool.or_eq_true, decide_eq_true_eq, decide_eq_true_eq] at h
  rcases h with rfl | rfl <;> decide
theorem z01_fit {v : Int32} (h : z01 v = true) : fits .boolean (.int v) = true := by
  unfold z01 at h
  rw [Bool.or_eq_true, decide_eq_true_eq, decide_eq_true_eq] at h
  rcases h with rfl | rfl <;> decide
def gd {α : Type} (b : Bool) (x : Option α) : Option α := match b with
  | true => x
  | false => none
theorem gd_some {α : Type} {b : Bool} {x : Option α} {r : α} (h : gd b x = some r) : b = true ∧ x = some r := by
  cases b with
  | true => exact ⟨rfl, h⟩
  | false => cases h
theorem bd_some {α β : Type} {x : Option α} {f : α → Option β} {r : β} (h : x.bind f = some r) : ∃ a, x = some a ∧ f a = some r := by
  cases x with
  | none => cases h
  | some a => exact ⟨a, rfl, h⟩
theorem it_t {α : Type} {c : Prop} [Decidable c] {a b : α} {r : α} (hc : c) (h : (if c then a else b) = r) : a = r := by rw [if_pos hc] at h; exact h
theorem it_f {α : Type} {c : Prop} [Decidable c] {a b : α} {r : α} (hc : ¬ c) (h : (if c then a else b) = r) : b = r := by rw [if_neg hc] at h; exact h
/-- a field is read -/
theorem V_get {cc : ByteArray} {own : String} {fr lo nL : Nat} {G : Wc} {Γ : Cx} {us : List (Nat × Ob)} {pc : Nat} {L : List (Nat × Value)} {st : List Value} {ref C : String} {T : u_T} {N ci index u k : Nat} {S : Ob} {fs : List Value} {v : Value} (kf i : Nat)
    (hw : Cond.fieldLink own index ref (T kf).2.1 (T kf).2.2.1 ∈ gw ∨ ∃ host, Cond.fieldLinkNest own index ref (T kf).2.1 (T kf).2.2.1 host ∈ lw_tbl) (hin : ∀ w ∈ u_ws C T N, w ∈ gw) (hc : vwCl[ci]? = some (C, T, N)) (hkf : kf < N) (href : (T kf).1 = ref)
    (hu : us[i]? = some (u, S)) (hk : kd u = k) (hk12 : k < 12) (hcell : (uc G u k S)[0]? = some (wA G u 0, .inr (ci, fs))) (hv : fs[kf]? = some v) (d : decode cc pc = .ok (.getfield index, 3))
    (kk : V cc own fr lo nL G Γ us (pc + 3) L (v :: st)) : V cc own fr lo nL G Γ us pc L (.ref (wA G u 0) :: st) := by
  intro ok hn H locs ls hP hS hl
  obtain ⟨q0, hq⟩ := allc_get (kd_lt hk hk12) hk (ov_get hn hu) hcell
  rcases hw with hw | ⟨host, hw⟩
  · exact va_get ok.1 ok.2.1 ok.2.2.2.2.1 hin ok.2.2.2.1 ok.2.2.2.2.2.2.2.2.1 hP q0 hq hc kf hkf (ok.2.2.2.2.1 _ hw) (fun x hx => by rw [← href]; exact hx) hv d (kk ok hn H locs ls hP hS hl)
  · exact va_getN ok.1 ok.2.1 ok.2.2.2.2.1 hin ok.2.2.2.1 ok.2.2.2.2.2.2.2.2.1 hP q0 hq hc kf hkf (va_Nw.use rfl (ok.2.2.2.2.2.2.2.2.2.1.1 _ hw rfl)) (fun x hx => by rw [← href]; exact hx) hv d (kk ok hn H locs ls hP hS hl)
/-- a field is written -/
theorem V_put {cc : ByteArray} {own : String} {fr lo nL : Nat} {G : Wc} {Γ : Cx} {us us1 : List (Nat × Ob)} {pc : Nat} {L : List (Nat × Value)} {st : List Value} {ref C : String} {T : u_T} {N ci index u k : Nat} {S S1 : Ob} {fs : List Value} {v : Value} {ty : FieldType} (ty0 : Nat → FieldType) (kf i : Nat)
    (hw : Cond.fieldLink own index ref (T kf).2.1 (T kf).2.2.1 ∈ gw ∨ ∃ host, Cond.fieldLinkNest own index ref (T kf).2.1 (T kf).2.2.1 host ∈ lw_tbl) (hin : ∀ w ∈ u_ws C T N, w ∈ gw) (hty : ∀ k, k < N → parseFieldDescriptor (T k).2.2.1 = some (ty0 k)) (hnm : ∀ a, a < N → ∀ b, b < N → a ≠ b → (T a).2.1 ≠ (T b).2.1) (hc : vwCl[ci]? = some (C, T, N)) (hkf : kf < N) (href : (T kf).1 = ref) (hfin : (T kf).2.2.2 = false) (hd : parseFieldDescriptor (T kf).2.2.1 = some ty)
    (hn0 : narrow ty v = v) (hfit : fits ty v = true)
    (hu : us[i]? = some (u, S)) (hk : kd u = k) (hk12 : k < 12) (hcell : (uc G u k S)[0]? = some (wA G u 0, .inr (ci, fs))) (hl0 : kf < fs.length) (hnew : uc G u k S1 = (uc G u k S).set 0 (wA G u 0, .inr (ci, fs.set kf v))) (hus : us.set i (u, S1) = us1) (d : decode cc pc = .ok (.putfield index, 3))
    (kk : V cc own fr lo nL G Γ us1 (pc + 3) L st) : V cc own fr lo nL G Γ us pc L (v :: .ref (wA G u 0) :: st) := by
  intro ok hn H locs ls hP hS hl
  obtain ⟨q0, hq, hset⟩ := allc_set (kd_lt hk hk12) hk (ov_get hn hu) hcell
  have hD := ok.2.2.2.2.2.2.2.2.2.2.2.1 (ov Γ.2.2.2 us)
  have kk' : ∀ (H1 : Heap) (locs1 : List Loc), va_P (wD G) vwCl ((allc G (ov Γ.2.2.2 us)).set q0 (wA G u 0, .inr (ci, fs.set kf v))) H1 → va_D (wF G) ((allc G (ov Γ.2.2.2 us)).set q0 (wA G u 0, .inr (ci, fs.set kf v))) → va_S (wF G) Γ.1.2.2.2.2.heap H1 locs1 → W Γ.1.1 Γ.1.2.1 Γ.1.2.2.1 Γ.1.2.2.2.1 Γ.1.2.2.2.2 Γ.2.1.1 Γ.2.1.2.1 Γ.2.1.2.2.1 Γ.2.1.2.2.2.1 Γ.2.1.2.2.2.2 H1 locs1 Γ.2.2.1.1 Γ.2.2.1.2.1 Γ.2.2.1.2.2 (F0 Γ.2.1.1 (pc + 3) ls st) := by
    intro H1 locs1 hP1 _ hS1
    subst hus
    refine kk ok (nd_set hn hu) H1 locs1 ls ?_ hS1 hl
    rw [ov_set hn hu, hset S1 _ hnew]
    exact hP1
  rcases hw with hw | ⟨host, hw⟩
  · exact va_put ok.1 ok.2.1 ok.2.2.2.2.1 hin ty0 hty hnm ok.2.2.2.1 ok.2.2.2.2.2.2.2.2.1 hP hD hS q0 hq hc kf hkf (ok.2.2.2.2.1 _ hw) (fun x hx => by rw [← href]; exact hx) hfin hd hn0 hfit hl0 d kk'
  · exact va_putN ok.1 ok.2.1 ok.2.2.2.2.1 hin ty0 hty hnm ok.2.2.2.1 ok.2.2.2.2.2.2.2.2.1 hP hD hS q0 hq hc kf hkf (va_Nw.use rfl (ok.2.2.2.2.2.2.2.2.2.1.1 _ hw rfl)) (fun x hx => by rw [← href]; exact hx) hfin hd hn0 hfit hl0 d kk'
