/-! THE V LAYER. A unit is an object with its own arrays; its value Ob has ints, longs, words (places of Word's constants), int rows, long rows, word rows, each by the number of the field. -/
abbrev Ob : Type := (Nat → Int32) × (Nat → Int64) × (Nat → Option Nat) × (Nat → Nat → Int32) × (Nat → Nat → Int64) × (Nat → Nat → Option Nat)
def oI (S : Ob) (k : Nat) : Int32 := S.1 k
def oL (S : Ob) (k : Nat) : Int64 := S.2.1 k
def oW (S : Ob) (k : Nat) : Option Nat := S.2.2.1 k
def oA (S : Ob) (k : Nat) : Nat → Int32 := S.2.2.2.1 k
def oJ (S : Ob) (k : Nat) : Nat → Int64 := S.2.2.2.2.1 k
def oX (S : Ob) (k : Nat) : Nat → Option Nat := S.2.2.2.2.2 k
def sI (S : Ob) (k : Nat) (v : Int32) : Ob := (va_up S.1 k v, S.2.1, S.2.2.1, S.2.2.2.1, S.2.2.2.2.1, S.2.2.2.2.2)
def sL (S : Ob) (k : Nat) (v : Int64) : Ob := (S.1, va_up S.2.1 k v, S.2.2.1, S.2.2.2.1, S.2.2.2.2.1, S.2.2.2.2.2)
def sW (S : Ob) (k : Nat) (v : Option Nat) : Ob := (S.1, S.2.1, va_up S.2.2.1 k v, S.2.2.2.1, S.2.2.2.2.1, S.2.2.2.2.2)
def sA (S : Ob) (k : Nat) (f : Nat → Int32) : Ob := (S.1, S.2.1, S.2.2.1, va_up S.2.2.2.1 k f, S.2.2.2.2.1, S.2.2.2.2.2)
def sJ (S : Ob) (k : Nat) (f : Nat → Int64) : Ob := (S.1, S.2.1, S.2.2.1, S.2.2.2.1, va_up S.2.2.2.2.1 k f, S.2.2.2.2.2)
def sX (S : Ob) (k : Nat) (f : Nat → Option Nat) : Ob := (S.1, S.2.1, S.2.2.1, S.2.2.2.1, S.2.2.2.2.1, va_up S.2.2.2.2.2 k f)
/-- the world's fixed things: classes and slots, classes of arrays, the units' addresses, from where on all is ours, Word's constants -/
abbrev Wc : Type := Launch × va_G × (Nat → ClassId) × (Nat → Nat → Nat) × Nat × (Nat → Nat)
def wL (G : Wc) : Launch := G.1
def wD (G : Wc) : va_G := G.2.1
def wT (G : Wc) : Nat → ClassId := G.2.2.1
def wA (G : Wc) : Nat → Nat → Nat := G.2.2.2.1
def wZ (G : Wc) : Nat := G.2.2.2.2.1
def wE (G : Wc) : Nat → Nat := G.2.2.2.2.2
def wF (G : Wc) : Nat → Prop := fun q => wZ G ≤ q
def wTys (G : Wc) : List (ClassId × FieldType) := [(wT G 0, .int), (wT G 1, .long), (wT G 2, .byte), (wT G 3, .boolean), (wT G 4, .object "CombedOut$Word"), (wT G 5, .object "CombedOut$State"), (wT G 6, .object "CombedOut$Image")]
/-- the units that an Image holds: 22 .. of the first (6), 25 .. of the second (7) -/
def tgI (u : Nat) : Nat := 3 * u + 4
def uc0 (G : Wc) (u : Nat) (S : Ob) : va_W :=
  [(wA G u 0, .inr (0, [.ref (wA G u 1), .ref (wA G u 2), .ref (wA G u 3), .int (oI S 3), .int (oI S 4), .int (oI S 5), .int (oI S 6), .int (oI S 7), .int (oI S 8)])),
   (wA G u 1, .inl (wT G 4, 40, .inr (.inr (.inr (.inr (fun j => (oX S 0 j).map (wE G))))))),
   (wA G u 2, .inl (wT G 0, 40, .inl (oA S 1))),
   (wA G u 3, .inl (wT G 0, 40, .inl (oA S 2)))]
def uc1 (G : Wc) (u : Nat) (S : Ob) : va_W :=
  [(wA G u 0, .inr (1, [.ref (wA G (tgI u + 0) 0), .ref (wA G (tgI u + 1) 0), .ref (wA G (tgI u + 2) 0), .int (oI S 3)]))]
def uc2 (G : Wc) (u : Nat) (S : Ob) : va_W :=
  [(wA G u 0, .inr (2, [.ref (wA G u 1), .int (oI S 1), .int (oI S 2)])),
   (wA G u 1, .inl (wT G 5, 8, .inr (.inr (.inr (.inr (fun j => some (wA G (14 + j) 0)))))))]
def uc3 (G : Wc) (u : Nat) (S : Ob) : va_W :=
  [(wA G u 0, .inr (3, [.ref (wA G u 1), .ref (wA G u 2), .int (oI S 2), .int (oI S 3), .int (oI S 4), .ref (wA G u 6), .ref (wA G u 7)])),
   (wA G u 1, .inl (wT G 0, 1024, .inl (oA S 0))),
   (wA G u 2, .inl (wT G 0, 10, .inl (oA S 1))),
   (wA G u 6, .inl (wT G 0, 4, .inl (oA S 5))),
   (wA G u 7, .inl (wT G 0, 6, .inl (oA S 6)))]
def uc4 (G : Wc) (u : Nat) (S : Ob) : va_W :=
  [(wA G u 0, .inr (4, [.int (oI S 0), .ref (wA G u 2), .ref (wA G u 3), .ref (wA G u 4), .int (oI S 4), .ref (wA G u 6), .ref (wA G u 7), .int (oI S 7), .ref (wA G u 9), .ref (wA G u 10), .ref (wA G u 11), .int (oI S 11), .ref (wA G u 13), .ref (wA G u 14), .int (oI S 14), .int (oI S 15)])),
   (wA G u 2, .inl (wT G 1, 8, .inr (.inl (oJ S 1)))),
   (wA G u 3, .inl (wT G 0, 8, .inl (oA S 2))),
   (wA G u 4, .inl (wT G 0, 8, .inl (oA S 3))),
   (wA G u 6, .inl (wT G 1, 6, .inr (.inl (oJ S 5)))),
   (wA G u 7, .inl (wT G 0, 6, .inl (oA S 6))),
   (wA G u 9, .inl (wT G 0, 12, .inl (oA S 8))),
   (wA G u 10, .inl (wT G 0, 12, .inl (oA S 9))),
   (wA G u 11, .inl (wT G 0, 12, .inl (oA S 10))),
   (wA G u 13, .inl (wT G 1, 4, .inr (.inl (oJ S 12)))),
   (wA G u 14, .inl (wT G 0, 4, .inl (oA S 13)))]
def uc5 (G : Wc) (u : Nat) (S : Ob) : va_W :=
  [(wA G u 0, .inr (5, [.ref (wA G u 1), .ref (wA G u 2), .ref (wA G u 3), .int (oI S 3), .int (oI S 4)])),
   (wA G u 1, .inl (wT G 4, 40, .inr (.inr (.inr (.inr (fun j => (oX S 0 j).map (wE G))))))),
   (wA G u 2, .inl (wT G 0, 40, .inl (oA S 1))),
   (wA G u 3, .inl (wT G 0, 40, .inl (oA S 2)))]
def uc6 (G : Wc) (u : Nat) (S : Ob) : va_W :=
  [(wA G u 0, .inr (6, [.ref (wA G u 1), .ref (wA G u 2), .ref (wA G u 3), .ref (wA G u 4), .ref (wA G u 5), .ref (wA G u 6), .ref (wA G u 7), .int (oI S 7), .int (oI S 8), .int (oI S 9), .int (oI S 10), .int (oI S 11), .int (oI S 12)])),
   (wA G u 1, .inl (wT G 0, 48, .inl (oA S 0))),
   (wA G u 2, .inl (wT G 0, 6, .inl (oA S 1))),
   (wA G u 3, .inl (wT G 0, 6, .inl (oA S 2))),
   (wA G u 4, .inl (wT G 0, 8, .inl (oA S 3))),
   (wA G u 5, .inl (wT G 0, 8, .inl (oA S 4))),
   (wA G u 6, .inl (wT G 0, 4, .inl (oA S 5))),
   (wA G u 7, .inl (wT G 0, 4, .inl (oA S 6)))]
def uc7 (G : Wc) (u : Nat) (S : Ob) : va_W :=
  [(wA G u 0, .inr (7, [.ref (wA G u 1), .int (oI S 1)])),
   (wA G u 1, .inl (wT G 0, 79, .inl (oA S 0)))]
def uc8 (G : Wc) (u : Nat) (S : Ob) : va_W :=
  [(wA G u 0, .inr (8, [.ref (wA G u 1), .int (oI S 1), .int (oI S 2), .int (oI S 3), .int (oI S 4), .int (oI S 5), .int (oI S 6), .long (oL S 7), va_re (wE G) (oW S 8), .int (oI S 9), .int (oI S 10)])),
   (wA G u 1, .inl (wT G 0, 940, .inl (oA S 0)))]
def uc9 (G : Wc) (u : Nat) (S : Ob) : va_W :=
  [(wA G u 0, .inr (9, [.ref (wA G 1 0), .ref (wA G 2 0), .ref (wA G 3 0), .ref (wA G 4 0), .ref (wA G 5 0), .ref (wA G u 6), .ref (wA G 8 0), .ref (wA G 9 0), .ref (wA G 10 0), .ref (wA G 11 0), .ref (wA G 12 0), .ref (wA G 13 0), .int (oI S 12), .int (oI S 13), .int (oI S 14), .int (oI S 15)])),
   (wA G u 6, .inl (wT G 6, 2, .inr (.inr (.inr (.inr (fun j => some (wA G (6 + j) 0)))))))]
def uc10 (G : Wc) (u : Nat) (S : Ob) : va_W :=
  [(wA G u 0, .inr (10, [.int (oI S 0), .ref (wA G u 2), .int (oI S 2), .int (oI S 3), .int (oI S 4), .int (oI S 5), .ref (wA G u 7), .ref (wA G u 8), .ref (wA G u 9), .ref (wA G u 10), .ref (wA G u 11), .int (oI S 11), .int (oI S 12), .int (oI S 13), .int (oI S 14), .int (oI S 15), .int (oI S 16), .long (oL S 17), .int (oI S 18), .int (oI S 19), .int (oI S 20), .ref (wA G u 22), .ref (wA G u 23), .int (oI S 23), .int (oI S 24), .int (oI S 25), .ref (wA G u 27), .ref (wA G u 28), .ref (wA G u 29), .int (oI S 29), .int (oI S 30), .int (oI S 31), .int (oI S 32), .ref (wA G u 34), .int (oI S 34), .int (oI S 35), .int (oI S 36), .ref (wA G u 38), .int (oI S 38), .ref (wA G u 40), .int (oI S 40), .int (oI S 41), .int (oI S 42), .int (oI S 43), .int (oI S 44), .ref (wA G u 46), .ref (wA G u 47), .ref (wA G u 48), .ref (wA G u 49)])),
   (wA G u 2, .inl (wT G 2, 940, .inl (oA S 1))),
   (wA G u 7, .inl (wT G 0, 390, .inl (oA S 6))),
   (wA G u 8, .inl (wT G 0, 121, .inl (oA S 7))),
   (wA G u 9, .inl (wT G 0, 135, .inl (oA S 8))),
   (wA G u 10, .inl (wT G 1, 36, .inr (.inl (oJ S 9)))),
   (wA G u 11, .inl (wT G 1, 22, .inr (.inl (oJ S 10)))),
   (wA G u 22, .inl (wT G 0, 704, .inl (oA S 21))),
   (wA G u 23, .inl (wT G 0, 88, .inl (oA S 22))),
   (wA G u 27, .inl (wT G 3, 16384, .inl (oA S 26))),
   (wA G u 28, .inl (wT G 0, 1024, .inl (oA S 27))),
   (wA G u 29, .inl (wT G 0, 10, .inl (oA S 28))),
   (wA G u 34, .inl (wT G 2, 88, .inl (oA S 33))),
   (wA G u 38, .inl (wT G 0, 4, .inl (oA S 37))),
   (wA G u 40, .inl (wT G 0, 45, .inl (oA S 39))),
   (wA G u 46, .inl (wT G 3, 45, .inl (oA S 45))),
   (wA G u 47, .inl (wT G 0, 780, .inl (oA S 46))),
   (wA G u 48, .inl (wT G 1, 36, .inr (.inl (oJ S 47)))),
   (wA G u 49, .inl (wT G 3, 2, .inl (oA S 48)))]
/-- the row of the law: there or not yet -/
def uc11 (G : Wc) (u : Nat) (S : Ob) : va_W := if oI S 1 = 1 then [(wA G u 1, .inl (wT G 1, 1, .inr (.inl (oJ S 0))))] else []
def uc (G : Wc) (u k : Nat) (S : Ob) : va_W := match k with
  | 0 => uc0 G u S
  | 1 => uc1 G u S
  | 2 => uc2 G u S
  | 3 => uc3 G u S
  | 4 => uc4 G u S
  | 5 => uc5 G u S
  | 6 => uc6 G u S
  | 7 => uc7 G u S
  | 8 => uc8 G u S
  | 9 => uc9 G u S
  | 10 => uc10 G u S
  | 11 => uc11 G u S
  | _ => []
def kd (u : Nat) : Nat := match u with
  | 0 => 9
  | 1 => 8
  | 2 => 4
  | 3 => 6
  | 4 => 5
  | 5 => 2
  | 6 => 1
  | 7 => 1
  | 8 => 3
  | 9 => 0
  | 10 => 7
  | 11 => 4
  | 12 => 5
  | 13 => 6
  | 14 => 6
  | 15 => 6
  | 16 => 6
  | 17 => 6
  | 18 => 6
  | 19 => 6
  | 20 => 6
  | 21 => 6
  | 22 => 4
  | 23 => 6
  | 24 => 5
  | 25 => 4
  | 26 => 6
  | 27 => 5
  | 28 => 10
  | 29 => 11
  | _ => 12
def allc (G : Wc) (h : Nat → Ob) : va_W := (List.range 30).flatMap (fun u => uc G u (kd u) (h u))

theorem kd_lt {u k : Nat} (h : kd u = k) (hk : k < 12) : u < 30 := by
  rcases Nat.lt_or_ge u 30 with q | q
  · exact q
  · exfalso
    have : kd u = 12 := by
      unfold kd
      split <;> first | omega | rfl
    omega
theorem up_self {α : Type} {f : Nat → α} {k : Nat} {v : α} : va_up f k v k = v := by
  unfold va_up
  rw [if_pos rfl]
theorem up_ne {α : Type} {f : Nat → α} {k j : Nat} {v : α} (h : j ≠ k) : va_up f k v j = f j := by
  unfold va_up
  rw [if_neg h]
/-- values of units over a given heap of units -/
def ov (h : Nat → Ob) : List (Nat × Ob) → Nat → Ob
  | [] => h
  | q :: t => va_up (ov h t) q.1 q.2
def putL (us : List (Nat × Ob)) : List Nat → List (Nat × Ob) → List (Nat × Ob)
  | i :: is, q :: qs => putL (us.set i q) is qs
  | _, _ => us
abbrev nd (us : List (Nat × Ob)) : Prop := (us.map (fun q => q.1)).Nodup
theorem ov_at {h : Nat → Ob} : ∀ {us : List (Nat × Ob)} {q : Nat × Ob}, nd us → q ∈ us → ov h us q.1 = q.2
  | [], _, _, hq => by cases hq
  | r :: t, q, hn, hq => by
    have hn' := List.nodup_cons.mp hn
    rcases List.mem_cons.mp hq with rfl | hq
    · show (if _ = _ then _ else _) = _
      rw [if_pos rfl]
    · have hne : q.1 ≠ r.1 := fun e => hn'.1 (by show r.1 ∈ _; rw [← e]; exact List.mem_map_of_mem (f := fun q : Nat × Ob => q.1) hq)
      show (if _ = _ then _ else _) = _
      rw [if_neg hne]
      exact ov_at hn'.2 hq
theorem ov_get {h : Nat → Ob} {us : List (Nat × Ob)} {i u : Nat} {S : Ob} (hn : nd us) (hi : us[i]? = some (u, S)) : ov h us u = S := ov_at (q := (u, S)) hn (List.mem_of_getElem? hi)
theorem ov_out {h : Nat → Ob} {j : Nat} : ∀ {us : List (Nat × Ob)}, j ∉ us.map (fun q => q.1) → ov h us j = h j
  | [], _ => rfl
  | r :: t, hj => by
    show (if _ = _ then _ else _) = _
    rw [if_neg (fun e => hj (by rw [e]; exact List.mem_cons_self))]
    exact ov_out (fun z => hj (List.mem_cons_of_mem _ z))
theorem map_set1 {us : List (Nat × Ob)} {i u : Nat} {S S' : Ob} (hi : us[i]? = some (u, S)) : (us.set i (u, S')).map (fun q => q.1) = us.map (fun q => q.1) := by
  rw [List.map_set]
  apply List.ext_getElem?
  intro n
  by_cases hn : n = i
  · subst hn
    rw [List.getElem?_set_self (by rw [List.length_map]; exact (List.getElem?_eq_some_iff.mp hi).1), List.getElem?_map, hi]
    rfl
  · rw [List.getElem?_set_ne (Ne.symm hn)]
theorem nd_set {us : List (Nat × Ob)} {i u : Nat} {S S' : Ob} (hn : nd us) (hi : us[i]? = some (u, S)) : nd (us.set i (u, S')) := by
  unfold nd
  rw [map_set1 hi]
  exact hn
theorem ov_set {h : Nat → Ob} {us : List (Nat × Ob)} {i u : Nat} {S S' : Ob} (hn : nd us) (hi : us[i]? = some (u, S)) : ov h (us.set i (u, S')) = va_up (ov h us) u S' := by
  funext j
  by_cases hj : j ∈ us.map (fun q => q.1)
  · obtain ⟨q, hq, rfl⟩ := List.mem_map.mp hj
    by_cases hu : q.1 = u
    · rw [hu, up_self]
      exact ov_get (i := i) (nd_set hn hi) (List.getElem?_set_self (List.getElem?_eq_some_iff.mp hi).1)
    · rw [up_ne hu, ov_at hn hq]
      refine ov_at (nd_set hn hi) ?_
      obtain ⟨n, hq⟩ := List.getElem?_of_mem hq
      have hne : i ≠ n := by
        rintro rfl
        rw [hi] at hq
        cases hq
        exact hu rfl
      exact List.mem_of_getElem? (i := n) (by rw [List.getElem?_set_ne hne]; exact hq)
  · have hu : j ≠ u := fun e => hj (by rw [e]; exact List.mem_map_of_mem (f := fun q : Nat × Ob => q.1) (List.mem_of_getElem? hi))
    rw [up_ne hu, ov_out hj]
    exact ov_out (by rw [map_set1 hi]; exact hj)
theorem ov_up_comm {h : Nat → Ob} {u : Nat} {S : Ob} : ∀ {qs : List (Nat × Ob)}, u ∉ qs.map (fun q => q.1) → ov (va_up h u S) qs = va_up (ov h qs) u S
  | [], _ => rfl
  | r :: t, hu => by
    have h1 : u ≠ r.1 := fun e => hu (by rw [e]; exact List.mem_cons_self)
    funext j
    show va_up (ov (va_up h u S) t) r.1 r.2 j = va_up (va_up (ov h t) r.1 r.2) u S j
    rw [ov_up_comm (fun z => hu (List.mem_cons_of_mem _ z))]
    unfold va_up
    by_cases a : j = r.1 <;> by_cases b : j = u
    · exact absurd (b.symm.trans a) h1
    · simp [a, Ne.symm h1]
    · simp [b, h1]
    · simp [a, b]
/-- the callee's units put back among the caller's -/
theorem ov_put {h : Nat → Ob} : ∀ (is : List Nat) {us cu cu' : List (Nat × Ob)}, nd us → nd cu → is.map (fun i => us[i]?) = cu.map some → cu'.map (fun q => q.1) = cu.map (fun q => q.1) → nd (putL us is cu') ∧ ov h (putL us is cu') = ov (ov h us) cu'
  | [], us, cu, cu', hn, _, he, hi => by
    cases cu with
    | nil =>
      cases cu' with
      | nil => exact ⟨hn, rfl⟩
      | cons q t => simp at hi
    | cons q t => simp at he
  | i :: is, us, cu, cu', hn, hc, he, hi => by
    cases cu with
    | nil => simp at he
    | cons q t =>
      cases cu' with
      | nil => simp at hi
      | cons r t' =>
        simp only [List.map_cons, List.cons.injEq] at he hi
        have hc' := List.nodup_cons.mp hc
        obtain ⟨u, S⟩ := q
        obtain ⟨u', S'⟩ := r
        have hu : u' = u := hi.1
        subst hu
        have hget : us[i]? = some (u', S) := he.1
        have hmap : is.map (fun j => (us.set i (u', S'))[j]?) = t.map some := by
          rw [← he.2]
          apply List.map_congr_left
          intro j hj
          have hne : i ≠ j := by
            rintro rfl
            have : us[i]? ∈ t.map some := by rw [← he.2]; exact List.mem_map_of_mem hj
            rw [hget] at this
            obtain ⟨z, hz, hz2⟩ := List.mem_map.mp this
            cases hz2
            exact hc'.1 (List.mem_map_of_mem (f := fun q : Nat × Ob => q.1) hz)
          rw [List.getElem?_set_ne hne]
        obtain ⟨n1, e1⟩ := ov_put (h := h) is (us := us.set i (u', S')) (cu := t) (cu' := t') (nd_set hn hget) hc'.2 hmap hi.2
        refine ⟨n1, ?_⟩
        show ov h (putL (us.set i (u', S')) is t') = va_up (ov (ov h us) t') u' S'
        rw [e1, ov_set hn hget]
        exact ov_up_comm (by rw [hi.2]; exact hc'.1)
theorem nd_inj : ∀ {us : List (Nat × Ob)}, nd us → ∀ {i j : Nat} {q r : Nat × Ob}, us[i]? = some q → us[j]? = some r → q.1 = r.1 → i = j
  | [], _, i, j, q, r, h, _, _ => by simp at h
  | a :: t, hn, i, j, q, r, h1, h2, he => by
    have hn' := List.nodup_cons.mp hn
    cases i with
    | zero =>
      cases j with
      | zero => rfl
      | succ j =>
        rw [List.getElem?_cons_zero] at h1
        rw [List.getElem?_cons_succ] at h2
        cases h1
        exact absurd (by show a.1 ∈ _; rw [he]; exact List.mem_map_of_mem (f := fun q : Nat × Ob => q.1) (List.mem_of_getElem? h2)) hn'.1
    | succ i =>
      rw [List.getElem?_cons_succ] at h1
      cases j with
      | zero =>
        rw [List.getElem?_cons_zero] at h2
        cases h2
        exact absurd (by show a.1 ∈ _; rw [← he]; exact List.mem_map_of_mem (f := fun q : Nat × Ob => q.1) (List.mem_of_getElem? h1)) hn'.1
      | succ j =>
        rw [List.getElem?_cons_succ] at h2
        rw [nd_inj hn'.2 h1 h2 he]
theorem nd_sub {us : List (Nat × Ob)} (hn : nd us) : ∀ (is : List Nat) {cu : List (Nat × Ob)}, va_nd is = true → is.map (fun i => us[i]?) = cu.map some → nd cu
  | [], cu, _, he => by
    cases cu with
    | nil => exact List.nodup_nil
    | cons q t => simp at he
  | i :: is, cu, hs, he => by
    cases cu with
    | nil => simp at he
    | cons q t =>
      simp only [List.map_cons, List.cons.injEq] at he
      simp only [va_nd, Bool.and_eq_true, decide_eq_true_eq] at hs
      refine List.nodup_cons.mpr ⟨fun hm => ?_, nd_sub hn is hs.2 he.2⟩
      obtain ⟨r, hr, hr2⟩ := List.mem_map.mp hm
      have h3 : (some r) ∈ is.map (fun i => us[i]?) := by rw [he.2]; exact List.mem_map_of_mem hr
      obtain ⟨j, hj, hj2⟩ := List.mem_map.mp h3
      have hij := nd_inj hn he.1 hj2 hr2.symm
      subst hij
      exact hs.1 hj
