def Z0 : Ob := (fun _ => 0, fun _ => 0, fun _ => none, fun _ _ => 0, fun _ _ => 0, fun _ _ => none)
def gA (G : Wc) (ad : Nat → Nat) : Wc := (G.1, G.2.1, G.2.2.1, (fun _ => ad), G.2.2.2.2.1, G.2.2.2.2.2)
/-- a fresh unit of kind k at q -/
def pI (G : Wc) (k : Nat) (S : Ob) (q : Nat) : va_W → Prop := fun ws => ∃ ad : Nat → Nat, ad 0 = q ∧ ws = uc (gA G ad) 0 k S
theorem wac_int : Cond.arrayClass (newarray.typeOf .int) ∈ gw := gw_at 194 (by decide +kernel) rfl
theorem wac_long : Cond.arrayClass (newarray.typeOf .long) ∈ gw := gw_at 292 (by decide +kernel) rfl
theorem wac_byte : Cond.arrayClass (newarray.typeOf .byte) ∈ gw := gw_at 1320 (by decide +kernel) rfl
theorem wac_boolean : Cond.arrayClass (newarray.typeOf .boolean) ∈ gw := gw_at 1529 (by decide +kernel) rfl
theorem wobj1 : Cond.instanceMethod Lib.objectInit ∈ gw := gw_at 141 (by decide +kernel) rfl
theorem wobj2 : Cond.code Lib.objectInit ⟨#[0xb1]⟩ 1 none ∈ gw := gw_at 142 (by decide +kernel) rfl
theorem wo_RX8 : Cond.methodLink RX8 3 Lib.objectInit ∈ gw := gw_at 148 (by decide +kernel) rfl
set_option maxRecDepth 20000 in
theorem kX8_init {G : Wc} {q : Nat} : CnI yX8_init cX8_init 1 1 60 1 940 G q (.inr (8, [.null, .int 0, .int 0, .int 0, .int 0, .int 0, .int 0, .long 0, .null, .int 0, .int 0])) (pI G 8 Z0 q) := by
  refine c_method (by decide) rfl rfl (Nat.le_of_ble_eq_true rfl) (fun A Γ hi hret => ?_)
  refine c_aload_n (pc := 0) 0 dX8_init_0 rfl ?_
  refine c_obj (pc := 1) ⟨wo_RX8, wobj1, wobj2⟩ (Nat.le_of_ble_eq_true rfl) (Nat.le_of_ble_eq_true rfl) (Nat.le_of_ble_eq_true rfl) dX8_init_1 ?_
  refine c_aload_n (pc := 4) 0 dX8_init_4 rfl ?_
  refine c_sipush (pc := 5) (940 : Int32) dX8_init_5 cs_940 ?_
  refine c_newa (pc := 8) (atype := .int) (ty := .int) (t := 0) (N' := 940) (a0 := (940, .inl (fun _ => 0))) wac_int rfl rfl ra_int (fun _ => rfl) (by decide) (by decide) (Nat.le_of_ble_eq_true rfl) (Nat.le_of_ble_eq_true rfl) (Nat.le_of_ble_eq_true rfl) dX8_init_8 (fun q1 => ?_)
  refine c_put (pc := 10) (T := TX8) (ty := .array .int) (ws1 := [(q, .inr (8, [.ref q1, .int 0, .int 0, .int 0, .int 0, .int 0, .int 0, .long 0, .null, .int 0, .int 0])), (q1, .inl (wT G 0, 940, .inl (fun _ => 0)))]) tyX8 0 0 wf_RX8_11 inX8 tyX8_ok nmX8 rfl (by decide) rfl (Or.inr ⟨rfl, hi, rfl⟩) (tyX8_ok 0 (by decide)) rfl rfl rfl (Nat.le_of_ble_eq_true rfl) rfl dX8_init_10 ?_
  exact hret _ 13 _ ⟨fun i => match i with | 0 => q | 1 => q1 | _ => q, rfl, rfl⟩ dX8_init_13
theorem wo_RX4 : Cond.methodLink RX4 3 Lib.objectInit ∈ gw := gw_at 200 (by decide +kernel) rfl
set_option maxRecDepth 20000 in
theorem kX4_init {G : Wc} {q : Nat} : CnI yX4_init cX4_init 1 1 60 10 80 G q (.inr (4, [.int 0, .null, .null, .null, .int 0, .null, .null, .int 0, .null, .null, .null, .int 0, .null, .null, .int 0, .int 0])) (pI G 4 (sI Z0 14 9) q) := by
  refine c_method (by decide) rfl rfl (Nat.le_of_ble_eq_true rfl) (fun A Γ hi hret => ?_)
  refine c_aload_n (pc := 0) 0 dX4_init_0 rfl ?_
  refine c_obj (pc := 1) ⟨wo_RX4, wobj1, wobj2⟩ (Nat.le_of_ble_eq_true rfl) (Nat.le_of_ble_eq_true rfl) (Nat.le_of_ble_eq_true rfl) dX4_init_1 ?_
  refine c_aload_n (pc := 4) 0 dX4_init_4 rfl ?_
  refine c_bipush (pc := 5) (8 : Int32) dX4_init_5 cb_8 ?_
  refine c_newa (pc := 7) (atype := .long) (ty := .long) (t := 1) (N' := 8) (a0 := (8, .inr (.inl (fun _ => 0)))) wac_long rfl rfl ra_long (fun _ => rfl) (by decide) (by decide) (Nat.le_of_ble_eq_true rfl) (Nat.le_of_ble_eq_true rfl) (Nat.le_of_ble_eq_true rfl) dX4_init_7 (fun q1 => ?_)
  refine c_put (pc := 9) (T := TX4) (ty := .array .long) (ws1 := [(q, .inr (4, [.int 0, .ref q1, .null, .null, .int 0, .null, .null, .int 0, .null, .null, .null, .int 0, .null, .null, .int 0, .int 0])), (q1, .inl (wT G 1, 8, .inr (.inl (fun _ => 0))))]) tyX4 1 0 wf_RX4_9 inX4 tyX4_ok nmX4 rfl (by decide) rfl (Or.inr ⟨rfl, hi, rfl⟩) (tyX4_ok 1 (by decide)) rfl rfl rfl (Nat.le_of_ble_eq_true rfl) rfl dX4_init_9 ?_
  refine c_aload_n (pc := 12) 0 dX4_init_12 rfl ?_
  refine c_bipush (pc := 13) (8 : Int32) dX4_init_13 cb_8 ?_
  refine c_newa (pc := 15) (atype := .int) (ty := .int) (t := 0) (N' := 8) (a0 := (8, .inl (fun _ => 0))) wac_int rfl rfl ra_int (fun _ => rfl) (by decide) (by decide) (Nat.le_of_ble_eq_true rfl) (Nat.le_of_ble_eq_true rfl) (Nat.le_of_ble_eq_true rfl) dX4_init_15 (fun q2 => ?_)
  refine c_put (pc := 17) (T := TX4) (ty := .array .int) (ws1 := [(q, .inr (4, [.int 0, .ref q1, .ref q2, .null, .int 0, .null, .null, .int 0, .null, .null, .null, .int 0, .null, .null, .int 0, .int 0])), (q1, .inl (wT G 1, 8, .inr (.inl (fun _ => 0)))), (q2, .inl (wT G 0, 8, .inl (fun _ => 0)))]) tyX4 2 0 wf_RX4_15 inX4 tyX4_ok nmX4 rfl (by decide) rfl (Or.inr ⟨rfl, hi, rfl⟩) (tyX4_ok 2 (by decide)) rfl rfl rfl (Nat.le_of_ble_eq_true rfl) rfl dX4_init_17 ?_
  refine c_aload_n (pc := 20) 0 dX4_init_20 rfl ?_
  refine c_bipush (pc := 21) (8 : Int32) dX4_init_21 cb_8 ?_
  refine c_newa (pc := 23) (atype := .int) (ty := .int) (t := 0) (N' := 8) (a0 := (8, .inl (fun _ => 0))) wac_int rfl rfl ra_int (fun _ => rfl) (by decide) (by decide) (Nat.le_of_ble_eq_true rfl) (Nat.le_of_ble_eq_true rfl) (Nat.le_of_ble_eq_true rfl) dX4_init_23 (fun q3 => ?_)
  refine c_put (pc := 25) (T := TX4) (ty := .array .int) (ws1 := [(q, .inr (4, [.int 0, .ref q1, .ref q2, .ref q3, .int 0, .null, .null, .int 0, .null, .null, .null, .int 0, .null, .null, .int 0, .int 0])), (q1, .inl (wT G 1, 8, .inr (.inl (fun _ => 0)))), (q2, .inl (wT G 0, 8, .inl (fun _ => 0))), (q3, .inl (wT G 0, 8, .inl (fun _ => 0)))]) tyX4 3 0 wf_RX4_19 inX4 tyX4_ok nmX4 rfl (by decide) rfl (Or.inr ⟨rfl, hi, rfl⟩) (tyX4_ok 3 (by decide)) rfl rfl rfl (Nat.le_of_ble_eq_true rfl) rfl dX4_init_25 ?_
  refine c_aload_n (pc := 28) 0 dX4_init_28 rfl ?_
  refine c_bipush (pc := 29) (6 : Int32) dX4_init_29 cb_6 ?_
  refine c_newa (pc := 31) (atype := .long) (ty := .long) (t := 1) (N' := 6) (a0 := (6, .inr (.inl (fun _ => 0)))) wac_long rfl rfl ra_long (fun _ => rfl) (by decide) (by decide) (Nat.le_of_ble_eq_true rfl) (Nat.le_of_ble_eq_true rfl) (Nat.le_of_ble_eq_true rfl) dX4_init_31 (fun q4 => ?_)
  refine c_put (pc := 33) (T := TX4) (ty := .array .long) (ws1 := [(q, .inr (4, [.int 0, .ref q1, .ref q2, .ref q3, .int 0, .ref q4, .null, .int 0, .null, .null, .null, .int 0, .null, .null, .int 0, .int 0])), (q1, .inl (wT G 1, 8, .inr (.inl (fun _ => 0)))), (q2, .inl (wT G 0, 8, .inl (fun _ => 0))), (q3, .inl (wT G 0, 8, .inl (fun _ => 0))), (q4, .inl (wT G 1, 6, .inr (.inl (fun _ => 0))))]) tyX4 5 0 wf_RX4_22 inX4 tyX4_ok nmX4 rfl (by decide) rfl (Or.inr ⟨rfl, hi, rfl⟩) (tyX4_ok 5 (by decide)) rfl rfl rfl (Nat.le_of_ble_eq_true rfl) rfl dX4_init_33 ?_
  refine c_aload_n (pc := 36) 0 dX4_init_36 rfl ?_
  refine c_bipush (pc := 37) (6 : Int32) dX4_init_37 cb_6 ?_
  refine c_newa (pc := 39) (atype := .int) (ty := .int) (t := 0) (N' := 6) (a0 := (6, .inl (fun _ => 0))) wac_int rfl rfl ra_int (fun _ => rfl) (by decide) (by decide) (Nat.le_of_ble_eq_true rfl) (Nat.le_of_ble_eq_true rfl) (Nat.le_of_ble_eq_true rfl) dX4_init_39 (fun q5 => ?_)
  refine c_put (pc := 41) (T := TX4) (ty := .array .int) (ws1 := [(q, .inr (4, [.int 0, .ref q1, .ref q2, .ref q3, .int 0, .ref q4, .ref q5, .int 0, .null, .null, .null, .int 0, .null, .null, .int 0, .int 0])), (q1, .inl (wT G 1, 8, .inr (.inl (fun _ => 0)))), (q2, .inl (wT G 0, 8, .inl (fun _ => 0))), (q3, .inl (wT G 0, 8, .inl (fun _ => 0))), (q4, .inl (wT G 1, 6, .inr (.inl (fun _ => 0)))), (q5, .inl (wT G 0, 6, .inl (fun _ => 0)))]) tyX4 6 0 wf_RX4_25 inX4 tyX4_ok nmX4 rfl (by decide) rfl (Or.inr ⟨rfl, hi, rfl⟩) (tyX4_ok 6 (by decide)) rfl rfl rfl (Nat.le_of_ble_eq_true rfl) rfl dX4_init_41 ?_
  refine c_aload_n (pc := 44) 0 dX4_init_44 rfl ?_
  refine c_bipush (pc := 45) (12 : Int32) dX4_init_45 cb_12 ?_
  refine c_newa (pc := 47) (atype := .int) (ty := .int) (t := 0) (N' := 12) (a0 := (12, .inl (fun _ => 0))) wac_int rfl rfl ra_int (fun _ => rfl) (by decide) (by decide) (Nat.le_of_ble_eq_true rfl) (Nat.le_of_ble_eq_true rfl) (Nat.le_of_ble_eq_true rfl) dX4_init_47 (fun q6 => ?_)
  refine c_put (pc := 49) (T := TX4) (ty := .array .int) (ws1 := [(q, .inr (4, [.int 0, .ref q1, .ref q2, .ref q3, .int 0, .ref q4, .ref q5, .int 0, .ref q6, .null, .null, .int 0, .null, .null, .int 0, .int 0])), (q1, .inl (wT G 1, 8, .inr (.inl (fun _ => 0)))), (q2, .inl (wT G 0, 8, .inl (fun _ => 0))), (q3, .inl (wT G 0, 8, .inl (fun _ => 0))), (q4, .inl (wT G 1, 6, .inr (.inl (fun _ => 0)))), (q5, .inl (wT G 0, 6, .inl (fun _ => 0))), (q6, .inl (wT G 0, 12, .inl (fun _ => 0)))]) tyX4 8 0 wf_RX4_28 inX4 tyX4_ok nmX4 rfl (by decide) rfl (Or.inr ⟨rfl, hi, rfl⟩) (tyX4_ok 8 (by decide)) rfl rfl rfl (Nat.le_of_ble_eq_true rfl) rfl dX4_init_49 ?_
  refine c_aload_n (pc := 52) 0 dX4_init_52 rfl ?_
  refine c_bipush (pc := 53) (12 : Int32) dX4_init_53 cb_12 ?_
  refine c_newa (pc := 55) (atype := .int) (ty := .int) (t := 0) (N' := 12) (a0 := (12, .inl (fun _ => 0))) wac_int rfl rfl ra_int (fun _ => rfl) (by decide) (by decide) (Nat.le_of_ble_eq_true rfl) (Nat.le_of_ble_eq_true rfl) (Nat.le_of_ble_eq_true rfl) dX4_init_55 (fun q7 => ?_)
  refine c_put (pc := 57) (T := TX4) (ty := .array .int) (ws1 := [(q, .inr (4, [.int 0, .ref q1, .ref q2, .ref q3, .int 0, .ref q4, .ref q5, .int 0, .ref q6, .ref q7, .null, .int 0, .null, .null, .int 0, .int 0])), (q1, .inl (wT G 1, 8, .inr (.inl (fun _ => 0)))), (q2, .inl (wT G 0, 8, .inl (fun _ => 0))), (q3, .inl (wT G 0, 8, .inl (fun _ => 0))), (q4, .inl (wT G 1, 6, .inr (.inl (fun _ => 0)))), (q5, .inl (wT G 0, 6, .inl (fun _ => 0))), (q6, .inl (wT G 0, 12, .inl (fun _ => 0))), (q7, .inl (wT G 0, 12, .inl (fun _ => 0)))]) tyX4 9 0 wf_RX4_31 inX4 tyX4_ok nmX4 rfl (by decide) rfl (Or.inr ⟨rfl, hi, rfl⟩) (tyX4_ok 9 (by decide)) rfl rfl rfl (Nat.le_of_ble_eq_true rfl) rfl dX4_init_57 ?_
  refine c_aload_n (pc := 60) 0 dX4_init_60 rfl ?_
  refine c_bipush (pc := 61) (12 : Int32) dX4_init_61 cb_12 ?_
  refine c_newa (pc := 63) (atype := .int) (ty := .int) (t := 0) (N' := 12) (a0 := (12, .inl (fun _ => 0))) wac_int rfl rfl ra_int (fun _ => rfl) (by decide) (by decide) (Nat.le_of_ble_eq_true rfl) (Nat.le_of_ble_eq_true rfl) (Nat.le_of_ble_eq_true rfl) dX4_init_63 (fun q8 => ?_)
  refine c_put (pc := 65) (T := TX4) (ty := .array .int) (ws1 := [(q, .inr (4, [.int 0, .ref q1, .ref q2, .ref q3, .int 0, .ref q4, .ref q5, .int 0, .ref q6, .ref q7, .ref q8, .int 0, .null, .null, .int 0, .int 0])), (q1, .inl (wT G 1, 8, .inr (.inl (fun _ => 0)))), (q2, .inl (wT G 0, 8, .inl (fun _ => 0))), (q3, .inl (wT G 0, 8, .inl (fun _ => 0))), (q4, .inl (wT G 1, 6, .inr (.inl (fun _ => 0)))), (q5, .inl (wT G 0, 6, .inl (fun _ => 0))), (q6, .inl (wT G 0, 12, .inl (fun _ => 0))), (q7, .inl (wT G 0, 12, .inl (fun _ => 0))), (q8, .inl (wT G 0, 12, .inl (fun _ => 0)))]) tyX4 10 0 wf_RX4_34 inX4 tyX4_ok nmX4 rfl (by decide) rfl (Or.inr ⟨rfl, hi, rfl⟩) (tyX4_ok 10 (by decide)) rfl rfl rfl (Nat.le_of_ble_eq_true rfl) rfl dX4_init_65 ?_
  refine c_aload_n (pc := 68) 0 dX4_init_68 rfl ?_
  refine c_iconst (pc := 69) (4 : Int32) dX4_init_69 ci_4 ?_
  refine c_newa (pc := 70) (atype := .long) (ty := .long) (t := 1) (N' := 4) (a0 := (4, .inr (.inl (fun _ => 0)))) wac_long rfl rfl ra_long (fun _ => rfl) (by decide) (by decide) (Nat.le_of_ble_eq_true rfl) (Nat.le_of_ble_eq_true rfl) (Nat.le_of_ble_eq_true rfl) dX4_init_70 (fun q9 => ?_)
  refine c_put (pc := 72) (T := TX4) (ty := .array .long) (ws1 := [(q, .inr (4, [.int 0, .ref q1, .ref q2, .ref q3, .int 0, .ref q4, .ref q5, .int 0, .ref q6, .ref q7, .ref q8, .int 0, .ref q9, .null, .int 0, .int 0])), (q1, .inl (wT G 1, 8, .inr (.inl (fun _ => 0)))), (q2, .inl (wT G 0, 8, .inl (fun _ => 0))), (q3, .inl (wT G 0, 8, .inl (fun _ => 0))), (q4, .inl (wT G 1, 6, .inr (.inl (fun _ => 0)))), (q5, .inl (wT G 0, 6, .inl (fun _ => 0))), (q6, .inl (wT G 0, 12, .inl (fun _ => 0))), (q7, .inl (wT G 0, 12, .inl (fun _ => 0))), (q8, .inl (wT G 0, 12, .inl (fun _ => 0))), (q9, .inl (wT G 1, 4, .inr (.inl (fun _ => 0))))]) tyX4 12 0 wf_RX4_37 inX4 tyX4_ok nmX4 rfl (by decide) rfl (Or.inr ⟨rfl, hi, rfl⟩) (tyX4_ok 12 (by decide)) rfl rfl rfl (Nat.le_of_ble_eq_true rfl) rfl dX4_init_72 ?_
  refine c_aload_n (pc := 75) 0 dX4_init_75 rfl ?_
  refine c_iconst (pc := 76) (4 : Int32) dX4_init_76 ci_4 ?_
  refine c_newa (pc := 77) (atype := .int) (ty := .int) (t := 0) (N' := 4) (a0 := (4, .inl (fun _ => 0))) wac_int rfl rfl ra_int (fun _ => rfl) (by decide) (by decide) (Nat.le_of_ble_eq_true rfl) (Nat.le_of_ble_eq_true rfl) (Nat.le_of_ble_eq_true rfl) dX4_init_77 (fun q10 => ?_)
  refine c_put (pc := 79) (T := TX4) (ty := .array .int) (ws1 := [(q, .inr (4, [.int 0, .ref q1, .ref q2, .ref q3, .int 0, .ref q4, .ref q5, .int 0, .ref q6, .ref q7, .ref q8, .int 0, .ref q9, .ref q10, .int 0, .int 0])), (q1, .inl (wT G 1, 8, .inr (.inl (fun _ => 0)))), (q2, .inl (wT G 0, 8, .inl (fun _ => 0))), (q3, .inl (wT G 0, 8, .inl (fun _ => 0))), (q4, .inl (wT G 1, 6, .inr (.inl (fun _ => 0)))), (q5, .inl (wT G 0, 6, .inl (fun _ => 0))), (q6, .inl (wT G 0, 12, .inl (fun _ => 0))), (q7, .inl (wT G 0, 12, .inl (fun _ => 0))), (q8, .inl (wT G 0, 12, .inl (fun _ => 0))), (q9, .inl (wT G 1, 4, .inr (.inl (fun _ => 0)))), (q10, .inl (wT G 0, 4, .inl (fun _ => 0)))]) tyX4 13 0 wf_RX4_40 inX4 tyX4_ok nmX4 rfl (by decide) rfl (Or.inr ⟨rfl, hi, rfl⟩) (tyX4_ok 13 (by decide)) rfl rfl rfl (Nat.le_of_ble_eq_true rfl) rfl dX4_init_79 ?_
  refine c_aload_n (pc := 82) 0 dX4_init_82 rfl ?_
  refine c_bipush (pc := 83) (9 : Int32) dX4_init_83 cb_9 ?_
  refine c_put (pc := 85) (T := TX4) (ty := .int) (ws1 := [(q, .inr (4, [.int 0, .ref q1, .ref q2, .ref q3, .int 0, .ref q4, .ref q5, .int 0, .ref q6, .ref q7, .ref q8, .int 0, .ref q9, .ref q10, .int 9, .int 0])), (q1, .inl (wT G 1, 8, .inr (.inl (fun _ => 0)))), (q2, .inl (wT G 0, 8, .inl (fun _ => 0))), (q3, .inl (wT G 0, 8, .inl (fun _ => 0))), (q4, .inl (wT G 1, 6, .inr (.inl (fun _ => 0)))), (q5, .inl (wT G 0, 6, .inl (fun _ => 0))), (q6, .inl (wT G 0, 12, .inl (fun _ => 0))), (q7, .inl (wT G 0, 12, .inl (fun _ => 0))), (q8, .inl (wT G 0, 12, .inl (fun _ => 0))), (q9, .inl (wT G 1, 4, .inr (.inl (fun _ => 0)))), (q10, .inl (wT G 0, 4, .inl (fun _ => 0)))]) tyX4 14 0 wf_RX4_43 inX4 tyX4_ok nmX4 rfl (by decide) rfl (Or.inl rfl) (tyX4_ok 14 (by decide)) rfl rfl rfl (Nat.le_of_ble_eq_true rfl) rfl dX4_init_85 ?_
  exact hret _ 88 _ ⟨fun i => match i with | 0 => q | 2 => q1 | 3 => q2 | 4 => q3 | 6 => q4 | 7 => q5 | 9 => q6 | 10 => q7 | 11 => q8 | 13 => q9 | 14 => q10 | _ => q, rfl, rfl⟩ dX4_init_88
theorem wo_RX6 : Cond.methodLink RX6 3 Lib.objectInit ∈ gw := gw_at 298 (by decide +kernel) rfl
set_option maxRecDepth 20000 in
theorem kX6_init {G : Wc} {q : Nat} : CnI yX6_init cX6_init 1 1 60 7 84 G q (.inr (6, [.null, .null, .null, .null, .null, .null, .null, .int 0, .int 0, .int 0, .int 0, .int 0, .int 0])) (pI G 6 Z0 q) := by
  refine c_method (by decide) rfl rfl (Nat.le_of_ble_eq_true rfl) (fun A Γ hi hret => ?_)
  refine c_aload_n (pc := 0) 0 dX6_init_0 rfl ?_
  refine c_obj (pc := 1) ⟨wo_RX6, wobj1, wobj2⟩ (Nat.le_of_ble_eq_true rfl) (Nat.le_of_ble_eq_true rfl) (Nat.le_of_ble_eq_true rfl) dX6_init_1 ?_
  refine c_aload_n (pc := 4) 0 dX6_init_4 rfl ?_
  refine c_bipush (pc := 5) (48 : Int32) dX6_init_5 cb_48 ?_
  refine c_newa (pc := 7) (atype := .int) (ty := .int) (t := 0) (N' := 48) (a0 := (48, .inl (fun _ => 0))) wac_int rfl rfl ra_int (fun _ => rfl) (by decide) (by decide) (Nat.le_of_ble_eq_true rfl) (Nat.le_of_ble_eq_true rfl) (Nat.le_of_ble_eq_true rfl) dX6_init_7 (fun q1 => ?_)
  refine c_put (pc := 9) (T := TX6) (ty := .array .int) (ws1 := [(q, .inr (6, [.ref q1, .null, .null, .null, .null, .null, .null, .int 0, .int 0, .int 0, .int 0, .int 0, .int 0])), (q1, .inl (wT G 0, 48, .inl (fun _ => 0)))]) tyX6 0 0 wf_RX6_9 inX6 tyX6_ok nmX6 rfl (by decide) rfl (Or.inr ⟨rfl, hi, rfl⟩) (tyX6_ok 0 (by decide)) rfl rfl rfl (Nat.le_of_ble_eq_true rfl) rfl dX6_init_9 ?_
  refine c_aload_n (pc := 12) 0 dX6_init_12 rfl ?_
  refine c_bipush (pc := 13) (6 : Int32) dX6_init_13 cb_6 ?_
  refine c_newa (pc := 15) (atype := .int) (ty := .int) (t := 0) (N' := 6) (a0 := (6, .inl (fun _ => 0))) wac_int rfl rfl ra_int (fun _ => rfl) (by decide) (by decide) (Nat.le_of_ble_eq_true rfl) (Nat.le_of_ble_eq_true rfl) (Nat.le_of_ble_eq_true rfl) dX6_init_15 (fun q2 => ?_)
  refine c_put (pc := 17) (T := TX6) (ty := .array .int) (ws1 := [(q, .inr (6, [.ref q1, .ref q2, .null, .null, .null, .null, .null, .int 0, .int 0, .int 0, .int 0, .int 0, .int 0])), (q1, .inl (wT G 0, 48, .inl (fun _ => 0))), (q2, .inl (wT G 0, 6, .inl (fun _ => 0)))]) tyX6 1 0 wf_RX6_15 inX6 tyX6_ok nmX6 rfl (by decide) rfl (Or.inr ⟨rfl, hi, rfl⟩) (tyX6_ok 1 (by decide)) rfl rfl rfl (Nat.le_of_ble_eq_true rfl) rfl dX6_init_17 ?_
  refine c_aload_n (pc := 20) 0 dX6_init_20 rfl ?_
  refine c_bipush (pc := 21) (6 : Int32) dX6_init_21 cb_6 ?_
  refine c_newa (pc := 23) (atype := .int) (ty := .int) (t := 0) (N' := 6) (a0 := (6, .inl (fun _ => 0))) wac_int rfl rfl ra_int (fun _ => rfl) (by decide) (by decide) (Nat.le_of_ble_eq_true rfl) (Nat.le_of_ble_eq_true rfl) (Nat.le_of_ble_eq_true rfl) dX6_init_23 (fun q3 => ?_)
  refine c_put (pc := 25) (T := TX6) (ty := .array .int) (ws1 := [(q, .inr (6, [.ref q1, .ref q2, .ref q3, .null, .null, .null, .null, .int 0, .int 0, .int 0, .int 0, .int 0, .int 0])), (q1, .inl (wT G 0, 48, .inl (fun _ => 0))), (q2, .inl (wT G 0, 6, .inl (fun _ => 0))), (q3, .inl (wT G 0, 6, .inl (fun _ => 0)))]) tyX6 2 0 wf_RX6_18 inX6 tyX6_ok nmX6 rfl (by decide) rfl (Or.inr ⟨rfl, hi, rfl⟩) (tyX6_ok 2 (by decide)) rfl rfl rfl (Nat.le_of_ble_eq_true rfl) rfl dX6_init_25 ?_
  refine c_aload_n (pc := 28) 0 dX6_init_28 rfl ?_
  refine c_bipush (pc := 29) (8 : Int32) dX6_init_29 cb_8 ?_
  refine c_newa (pc := 31) (atype := .int) (ty := .int) (t := 0) (N' := 8) (a0 := (8, .inl (fun _ => 0))) wac_int rfl rfl ra_int (fun _ => rfl) (by decide) (by decide) (Nat.le_of_ble_eq_true rfl) (Nat.le_of_ble_eq_true rfl) (Nat.le_of_ble_eq_true rfl) dX6_init_31 (fun q4 => ?_)
  refine c_put (pc := 33) (T := TX6) (ty := .array .int) (ws1 := [(q, .inr (6, [.ref q1, .ref q2, .ref q3, .ref q4, .null, .null, .null, .int 0, .int 0, .int 0, .int 0, .int 0, .int 0])), (q1, .inl (wT G 0, 48, .inl (fun _ => 0))), (q2, .inl (wT G 0, 6, .inl (fun _ => 0))), (q3, .inl (wT G 0, 6, .inl (fun _ => 0))), (q4, .inl (wT G 0, 8, .inl (fun _ => 0)))]) tyX6 3 0 wf_RX6_21 inX6 tyX6_ok nmX6 rfl (by decide) rfl (Or.inr ⟨rfl, hi, rfl⟩) (tyX6_ok 3 (by decide)) rfl rfl rfl (Nat.le_of_ble_eq_true rfl) rfl dX6_init_33 ?_
  refine c_aload_n (pc := 36) 0 dX6_init_36 rfl ?_
  refine c_bipush (pc := 37) (8 : Int32) dX6_init_37 cb_8 ?_
  refine c_newa (pc := 39) (atype := .int) (ty := .int) (t := 0) (N' := 8) (a0 := (8, .inl (fun _ => 0))) wac_int rfl rfl ra_int (fun _ => rfl) (by decide) (by decide) (Nat.le_of_ble_eq_true rfl) (Nat.le_of_ble_eq_true rfl) (Nat.le_of_ble_eq_true rfl) dX6_init_39 (fun q5 => ?_)
  refine c_put (pc := 41) (T := TX6) (ty := .array .int) (ws1 := [(q, .inr (6, [.ref q1, .ref q2, .ref q3, .ref q4, .ref q5, .null, .null, .int 0, .int 0, .int 0, .int 0, .int 0, .int 0])), (q1, .inl (wT G 0, 48, .inl (fun _ => 0))), (q2, .inl (wT G 0, 6, .inl (fun _ => 0))), (q3, .inl (wT G 0, 6, .inl (fun _ => 0))), (q4, .inl (wT G 0, 8, .inl (fun _ => 0))), (q5, .inl (wT G 0, 8, .inl (fun _ => 0)))]) tyX6 4 0 wf_RX6_24 inX6 tyX6_ok nmX6 rfl (by decide) rfl (Or.inr ⟨rfl, hi, rfl⟩) (tyX6_ok 4 (by decide)) rfl rfl rfl (Nat.le_of_ble_eq_true rfl) rfl dX6_init_41 ?_
  refine c_aload_n (pc := 44) 0 dX6_init_44 rfl ?_
  refine c_iconst (pc := 45) (4 : Int32) dX6_init_45 ci_4 ?_
  refine c_newa (pc := 46) (atype := .int) (ty := .int) (t := 0) (N' := 4) (a0 := (4, .inl (fun _ => 0))) wac_int rfl rfl ra_int (fun _ => rfl) (by decide) (by decide) (Nat.le_of_ble_eq_true rfl) (Nat.le_of_ble_eq_true rfl) (Nat.le_of_ble_eq_true rfl) dX6_init_46 (fun q6 => ?_)
  refine c_put (pc := 48) (T := TX6) (ty := .array .int) (ws1 := [(q, .inr (6, [.ref q1, .ref q2, .ref q3, .ref q4, .ref q5, .ref q6, .null, .int 0, .int 0, .int 0, .int 0, .int 0, .int 0])), (q1, .inl (wT G 0, 48, .inl (fun _ => 0))), (q2, .inl (wT G 0, 6, .inl (fun _ => 0))), (q3, .inl (wT G 0, 6, .inl (fun _ => 0))), (q4, .inl (wT G 0, 8, .inl (fun _ => 0))), (q5, .inl (wT G 0, 8, .inl (fun _ => 0))), (q6, .inl (wT G 0, 4, .inl (fun _ => 0)))]) tyX6 5 0 wf_RX6_27 inX6 tyX6_ok nmX6 rfl (by decide) rfl (Or.inr ⟨rfl, hi, rfl⟩) (tyX6_ok 5 (by decide)) rfl rfl rfl (Nat.le_of_ble_eq_true rfl) rfl dX6_init_48 ?_
  refine c_aload_n (pc := 51) 0 dX6_init_51 rfl ?_
  refine c_iconst (pc := 52) (4 : Int32) dX6_init_52 ci_4 ?_
  refine c_newa (pc := 53) (atype := .int) (ty := .int) (t := 0) (N' := 4) (a0 := (4, .inl (fun _ => 0))) wac_int rfl rfl ra_int (fun _ => rfl) (by decide) (by decide) (Nat.le_of_ble_eq_true rfl) (Nat.le_of_ble_eq_true rfl) (Nat.le_of_ble_eq_true rfl) dX6_init_53 (fun q7 => ?_)
  refine c_put (pc := 55) (T := TX6) (ty := .array .int) (ws1 := [(q, .inr (6, [.ref q1, .ref q2, .ref q3, .ref q4, .ref q5, .ref q6, .ref q7, .int 0, .int 0, .int 0, .int 0, .int 0, .int 0])), (q1, .inl (wT G 0, 48, .inl (fun _ => 0))), (q2, .inl (wT G 0, 6, .inl (fun _ => 0))), (q3, .inl (wT G 0, 6, .inl (fun _ => 0))), (q4, .inl (wT G 0, 8, .inl (fun _ => 0))), (q5, .inl (wT G 0, 8, .inl (fun _ => 0))), (q6, .inl (wT G 0, 4, .inl (fun _ => 0))), (q7, .inl (wT G 0, 4, .inl (fun _ => 0)))]) tyX6 6 0 wf_RX6_30 inX6 tyX6_ok nmX6 rfl (by decide) rfl (Or.inr ⟨rfl, hi, rfl⟩) (tyX6_ok 6 (by decide)) rfl rfl rfl (Nat.le_of_ble_eq_true rfl) rfl dX6_init_55 ?_
  exact hret _ 58 _ ⟨fun i => match i with | 0 => q | 1 => q1 | 2 => q2 | 3 => q3 | 4 => q4 | 5 => q5 | 6 => q6 | 7 => q7 | _ => q, rfl, rfl⟩ dX6_init_58
theorem wo_RX5 : Cond.methodLink RX5 5 Lib.objectInit ∈ gw := gw_at 364 (by decide +kernel) rfl
theorem wcl_RX5_11 : Cond.classLink RX5 11 "CombedOut$Word" ∈ gw := gw_at 365 (by decide +kernel) rfl
set_option maxRecDepth 20000 in
theorem kX5_init {G : Wc} {q : Nat} : CnI yX5_init cX5_init 1 1 60 3 120 G q (.inr (5, [.null, .null, .null, .int 0, .int 0])) (pI G 5 Z0 q) := by
  refine c_method (by decide) rfl rfl (Nat.le_of_ble_eq_true rfl) (fun A Γ hi hret => ?_)
  refine c_aload_n (pc := 0) 0 dX5_init_0 rfl ?_
  refine c_obj (pc := 1) ⟨wo_RX5, wobj1, wobj2⟩ (Nat.le_of_ble_eq_true rfl) (Nat.le_of_ble_eq_true rfl) (Nat.le_of_ble_eq_true rfl) dX5_init_1 ?_
  refine c_aload_n (pc := 4) 0 dX5_init_4 rfl ?_
  refine c_bipush (pc := 5) (40 : Int32) dX5_init_5 cb_40 ?_
  refine c_newq (pc := 7) (CC := "CombedOut$Word") (t := 4) (N' := 40) wcl_RX5_11 (by decide) rfl (by decide) (by decide) (Nat.le_of_ble_eq_true rfl) (Nat.le_of_ble_eq_true rfl) (Nat.le_of_ble_eq_true rfl) dX5_init_7 (fun q1 => ?_)
  refine c_put (pc := 10) (T := TX5) (ty := .array (.object "CombedOut$Word")) (ws1 := [(q, .inr (5, [.ref q1, .null, .null, .int 0, .int 0])), (q1, .inl (wT G 4, 40, .inr (.inr (.inr (.inr (fun _ => none))))))]) tyX5 0 0 wf_RX5_13 inX5 tyX5_ok nmX5 rfl (by decide) rfl (Or.inr ⟨rfl, hi, rfl⟩) (tyX5_ok 0 (by decide)) rfl rfl rfl (Nat.le_of_ble_eq_true rfl) rfl dX5_init_10 ?_
  refine c_aload_n (pc := 13) 0 dX5_init_13 rfl ?_
  refine c_bipush (pc := 14) (40 : Int32) dX5_init_14 cb_40 ?_
  refine c_newa (pc := 16) (atype := .int) (ty := .int) (t := 0) (N' := 40) (a0 := (40, .inl (fun _ => 0))) wac_int rfl rfl ra_int (fun _ => rfl) (by decide) (by decide) (Nat.le_of_ble_eq_true rfl) (Nat.le_of_ble_eq_true rfl) (Nat.le_of_ble_eq_true rfl) dX5_init_16 (fun q2 => ?_)
  refine c_put (pc := 18) (T := TX5) (ty := .array .int) (ws1 := [(q, .inr (5, [.ref q1, .ref q2, .null, .int 0, .int 0])), (q1, .inl (wT G 4, 40, .inr (.inr (.inr (.inr (fun _ => none)))))), (q2, .inl (wT G 0, 40, .inl (fun _ => 0)))]) tyX5 1 0 wf_RX5_17 inX5 tyX5_ok nmX5 rfl (by decide) rfl (Or.inr ⟨rfl, hi, rfl⟩) (tyX5_ok 1 (by decide)) rfl rfl rfl (Nat.le_of_ble_eq_true rfl) rfl dX5_init_18 ?_
  refine c_aload_n (pc := 21) 0 dX5_init_21 rfl ?_
  refine c_bipush (pc := 22) (40 : Int32) dX5_init_22 cb_40 ?_
  refine c_newa (pc := 24) (atype := .int) (ty := .int) (t := 0) (N' := 40) (a0 := (40, .inl (fun _ => 0))) wac_int rfl rfl ra_int (fun _ => rfl) (by decide) (by decide) (Nat.le_of_ble_eq_true rfl) (Nat.le_of_ble_eq_true rfl) (Nat.le_of_ble_eq_true rfl) dX5_init_24 (fun q3 => ?_)
  refine c_put (pc := 26) (T := TX5) (ty := .array .int) (ws1 := [(q, .inr (5, [.ref q1, .ref q2, .ref q3, .int 0, .int 0])), (q1, .inl (wT G 4, 40, .inr (.inr (.inr (.inr (fun _ => none)))))), (q2, .inl (wT G 0, 40, .inl (fun _ => 0))), (q3, .inl (wT G 0, 40, .inl (fun _ => 0)))]) tyX5 2 0 wf_RX5_21 inX5 tyX5_ok nmX5 rfl (by decide) rfl (Or.inr ⟨rfl, hi, rfl⟩) (tyX5_ok 2 (by decide)) rfl rfl rfl (Nat.le_of_ble_eq_true rfl) rfl dX5_init_26 ?_
  exact hret _ 29 _ ⟨fun i => match i with | 0 => q | 1 => q1 | 2 => q2 | 3 => q3 | _ => q, rfl, rfl⟩ dX5_init_29
theorem wo_RX3 : Cond.methodLink RX3 3 Lib.objectInit ∈ gw := gw_at 435 (by decide +kernel) rfl
set_option maxRecDepth 20000 in
theorem kX3_init {G : Wc} {q : Nat} : CnI yX3_init cX3_init 1 1 60 4 1044 G q (.inr (3, [.null, .null, .int 0, .int 0, .int 0, .null, .null])) (pI G 3 Z0 q) := by
  refine c_method (by decide) rfl rfl (Nat.le_of_ble_eq_true rfl) (fun A Γ hi hret => ?_)
  refine c_aload_n (pc := 0) 0 dX3_init_0 rfl ?_
  refine c_obj (pc := 1) ⟨wo_RX3, wobj1, wobj2⟩ (Nat.le_of_ble_eq_true rfl) (Nat.le_of_ble_eq_true rfl) (Nat.le_of_ble_eq_true rfl) dX3_init_1 ?_
  refine c_aload_n (pc := 4) 0 dX3_init_4 rfl ?_
  refine c_sipush (pc := 5) (1024 : Int32) dX3_init_5 cs_1024 ?_
  refine c_newa (pc := 8) (atype := .int) (ty := .int) (t := 0) (N' := 1024) (a0 := (1024, .inl (fun _ => 0))) wac_int rfl rfl ra_int (fun _ => rfl) (by decide) (by decide) (Nat.le_of_ble_eq_true rfl) (Nat.le_of_ble_eq_true rfl) (Nat.le_of_ble_eq_true rfl) dX3_init_8 (fun q1 => ?_)
  refine c_put (pc := 10) (T := TX3) (ty := .array .int) (ws1 := [(q, .inr (3, [.ref q1, .null, .int 0, .int 0, .int 0, .null, .null])), (q1, .inl (wT G 0, 1024, .inl (fun _ => 0)))]) tyX3 0 0 wf_RX3_9 inX3 tyX3_ok nmX3 rfl (by decide) rfl (Or.inr ⟨rfl, hi, rfl⟩) (tyX3_ok 0 (by decide)) rfl rfl rfl (Nat.le_of_ble_eq_true rfl) rfl dX3_init_10 ?_
  refine c_aload_n (pc := 13) 0 dX3_init_13 rfl ?_
  refine c_bipush (pc := 14) (10 : Int32) dX3_init_14 cb_10 ?_
  refine c_newa (pc := 16) (atype := .int) (ty := .int) (t := 0) (N' := 10) (a0 := (10, .inl (fun _ => 0))) wac_int rfl rfl ra_int (fun _ => rfl) (by decide) (by decide) (Nat.le_of_ble_eq_true rfl) (Nat.le_of_ble_eq_true rfl) (Nat.le_of_ble_eq_true rfl) dX3_init_16 (fun q2 => ?_)
  refine c_put (pc := 18) (T := TX3) (ty := .array .int) (ws1 := [(q, .inr (3, [.ref q1, .ref q2, .int 0, .int 0, .int 0, .null, .null])), (q1, .inl (wT G 0, 1024, .inl (fun _ => 0))), (q2, .inl (wT G 0, 10, .inl (fun _ => 0)))]) tyX3 1 0 wf_RX3_15 inX3 tyX3_ok nmX3 rfl (by decide) rfl (Or.inr ⟨rfl, hi, rfl⟩) (tyX3_ok 1 (by decide)) rfl rfl rfl (Nat.le_of_ble_eq_true rfl) rfl dX3_init_18 ?_
  refine c_aload_n (pc := 21) 0 dX3_init_21 rfl ?_
  refine c_iconst (pc := 22) (4 : Int32) dX3_init_22 ci_4 ?_
  refine c_newa (pc := 23) (atype := .int) (ty := .int) (t := 0) (N' := 4) (a0 := (4, .inl (fun _ => 0))) wac_int rfl rfl ra_int (fun _ => rfl) (by decide) (by decide) (Nat.le_of_ble_eq_true rfl) (Nat.le_of_ble_eq_true rfl) (Nat.le_of_ble_eq_true rfl) dX3_init_23 (fun q3 => ?_)
  refine c_put (pc := 25) (T := TX3) (ty := .array .int) (ws1 := [(q, .inr (3, [.ref q1, .ref q2, .int 0, .int 0, .int 0, .ref q3, .null])), (q1, .inl (wT G 0, 1024, .inl (fun _ => 0))), (q2, .inl (wT G 0, 10, .inl (fun _ => 0))), (q3, .inl (wT G 0, 4, .inl (fun _ => 0)))]) tyX3 5 0 wf_RX3_18 inX3 tyX3_ok nmX3 rfl (by decide) rfl (Or.inr ⟨rfl, hi, rfl⟩) (tyX3_ok 5 (by decide)) rfl rfl rfl (Nat.le_of_ble_eq_true rfl) rfl dX3_init_25 ?_
  refine c_aload_n (pc := 28) 0 dX3_init_28 rfl ?_
  refine c_bipush (pc := 29) (6 : Int32) dX3_init_29 cb_6 ?_
  refine c_newa (pc := 31) (atype := .int) (ty := .int) (t := 0) (N' := 6) (a0 := (6, .inl (fun _ => 0))) wac_int rfl rfl ra_int (fun _ => rfl) (by decide) (by decide) (Nat.le_of_ble_eq_true rfl) (Nat.le_of_ble_eq_true rfl) (Nat.le_of_ble_eq_true rfl) dX3_init_31 (fun q4 => ?_)
  refine c_put (pc := 33) (T := TX3) (ty := .array .int) (ws1 := [(q, .inr (3, [.ref q1, .ref q2, .int 0, .int 0, .int 0, .ref q3, .ref q4])), (q1, .inl (wT G 0, 1024, .inl (fun _ => 0))), (q2, .inl (wT G 0, 10, .inl (fun _ => 0))), (q3, .inl (wT G 0, 4, .inl (fun _ => 0))), (q4, .inl (wT G 0, 6, .inl (fun _ => 0)))]) tyX3 6 0 wf_RX3_21 inX3 tyX3_ok nmX3 rfl (by decide) rfl (Or.inr ⟨rfl, hi, rfl⟩) (tyX3_ok 6 (by decide)) rfl rfl rfl (Nat.le_of_ble_eq_true rfl) rfl dX3_init_33 ?_
  exact hret _ 36 _ ⟨fun i => match i with | 0 => q | 1 => q1 | 2 => q2 | 6 => q3 | 7 => q4 | _ => q, rfl, rfl⟩ dX3_init_36
theorem wo_RX0 : Cond.methodLink RX0 3 Lib.objectInit ∈ gw := gw_at 463 (by decide +kernel) rfl
theorem wcl_RX0_11 : Cond.classLink RX0 11 "CombedOut$Word" ∈ gw := gw_at 464 (by decide +kernel) rfl
set_option maxRecDepth 20000 in
theorem kX0_init {G : Wc} {q : Nat} : CnI yX0_init cX0_init 1 1 60 3 120 G q (.inr (0, [.null, .null, .null, .int 0, .int 0, .int 0, .int 0, .int 0, .int 0])) (pI G 0 Z0 q) := by
  refine c_method (by decide) rfl rfl (Nat.le_of_ble_eq_true rfl) (fun A Γ hi hret => ?_)
  refine c_aload_n (pc := 0) 0 dX0_init_0 rfl ?_
  refine c_obj (pc := 1) ⟨wo_RX0, wobj1, wobj2⟩ (Nat.le_of_ble_eq_true rfl) (Nat.le_of_ble_eq_true rfl) (Nat.le_of_ble_eq_true rfl) dX0_init_1 ?_
  refine c_aload_n (pc := 4) 0 dX0_init_4 rfl ?_
  refine c_bipush (pc := 5) (40 : Int32) dX0_init_5 cb_40 ?_
  refine c_newq (pc := 7) (CC := "CombedOut$Word") (t := 4) (N' := 40) wcl_RX0_11 (by decide) rfl (by decide) (by decide) (Nat.le_of_ble_eq_true rfl) (Nat.le_of_ble_eq_true rfl) (Nat.le_of_ble_eq_true rfl) dX0_init_7 (fun q1 => ?_)
  refine c_put (pc := 10) (T := TX0) (ty := .array (.object "CombedOut$Word")) (ws1 := [(q, .inr (0, [.ref q1, .null, .null, .int 0, .int 0, .int 0, .int 0, .int 0, .int 0])), (q1, .inl (wT G 4, 40, .inr (.inr (.inr (.inr (fun _ => none))))))]) tyX0 0 0 wf_RX0_13 inX0 tyX0_ok nmX0 rfl (by decide) rfl (Or.inr ⟨rfl, hi, rfl⟩) (tyX0_ok 0 (by decide)) rfl rfl rfl (Nat.le_of_ble_eq_true rfl) rfl dX0_init_10 ?_
  refine c_aload_n (pc := 13) 0 dX0_init_13 rfl ?_
  refine c_bipush (pc := 14) (40 : Int32) dX0_init_14 cb_40 ?_
  refine c_newa (pc := 16) (atype := .int) (ty := .int) (t := 0) (N' := 40) (a0 := (40, .inl (fun _ => 0))) wac_int rfl rfl ra_int (fun _ => rfl) (by decide) (by decide) (Nat.le_of_ble_eq_true rfl) (Nat.le_of_ble_eq_true rfl) (Nat.le_of_ble_eq_true rfl) dX0_init_16 (fun q2 => ?_)
  refine c_put (pc := 18) (T := TX0) (ty := .array .int) (ws1 := [(q, .inr (0, [.ref q1, .ref q2, .null, .int 0, .int 0, .int 0, .int 0, .int 0, .int 0])), (q1, .inl (wT G 4, 40, .inr (.inr (.inr (.inr (fun _ => none)))))), (q2, .inl (wT G 0, 40, .inl (fun _ => 0)))]) tyX0 1 0 wf_RX0_17 inX0 tyX0_ok nmX0 rfl (by decide) rfl (Or.inr ⟨rfl, hi, rfl⟩) (tyX0_ok 1 (by decide)) rfl rfl rfl (Nat.le_of_ble_eq_true rfl) rfl dX0_init_18 ?_
  refine c_aload_n (pc := 21) 0 dX0_init_21 rfl ?_
  refine c_bipush (pc := 22) (40 : Int32) dX0_init_22 cb_40 ?_
  refine c_newa (pc := 24) (atype := .int) (ty := .int) (t := 0) (N' := 40) (a0 := (40, .inl (fun _ => 0))) wac_int rfl rfl ra_int (fun _ => rfl) (by decide) (by decide) (Nat.le_of_ble_eq_true rfl) (Nat.le_of_ble_eq_true rfl) (Nat.le_of_ble_eq_true rfl) dX0_init_24 (fun q3 => ?_)
  refine c_put (pc := 26) (T := TX0) (ty := .array .int) (ws1 := [(q, .inr (0, [.ref q1, .ref q2, .ref q3, .int 0, .int 0, .int 0, .int 0, .int 0, .int 0])), (q1, .inl (wT G 4, 40, .inr (.inr (.inr (.inr (fun _ => none)))))), (q2, .inl (wT G 0, 40, .inl (fun _ => 0))), (q3, .inl (wT G 0, 40, .inl (fun _ => 0)))]) tyX0 2 0 wf_RX0_21 inX0 tyX0_ok nmX0 rfl (by decide) rfl (Or.inr ⟨rfl, hi, rfl⟩) (tyX0_ok 2 (by decide)) rfl rfl rfl (Nat.le_of_ble_eq_true rfl) rfl dX0_init_26 ?_
  exact hret _ 29 _ ⟨fun i => match i with | 0 => q | 1 => q1 | 2 => q2 | 3 => q3 | _ => q, rfl, rfl⟩ dX0_init_29
theorem wo_RX7 : Cond.methodLink RX7 5 Lib.objectInit ∈ gw := gw_at 503 (by decide +kernel) rfl
set_option maxRecDepth 20000 in
theorem kX7_init {G : Wc} {q : Nat} : CnI yX7_init cX7_init 1 1 60 1 79 G q (.inr (7, [.null, .int 0])) (pI G 7 Z0 q) := by
  refine c_method (by decide) rfl rfl (Nat.le_of_ble_eq_true rfl) (fun A Γ hi hret => ?_)
  refine c_aload_n (pc := 0) 0 dX7_init_0 rfl ?_
  refine c_obj (pc := 1) ⟨wo_RX7, wobj1, wobj2⟩ (Nat.le_of_ble_eq_true rfl) (Nat.le_of_ble_eq_true rfl) (Nat.le_of_ble_eq_true rfl) dX7_init_1 ?_
  refine c_aload_n (pc := 4) 0 dX7_init_4 rfl ?_
  refine c_bipush (pc := 5) (79 : Int32) dX7_init_5 cb_79 ?_
  refine c_newa (pc := 7) (atype := .int) (ty := .int) (t := 0) (N' := 79) (a0 := (79, .inl (fun _ => 0))) wac_int rfl rfl ra_int (fun _ => rfl) (by decide) (by decide) (Nat.le_of_ble_eq_true rfl) (Nat.le_of_ble_eq_true rfl) (Nat.le_of_ble_eq_true rfl) dX7_init_7 (fun q1 => ?_)
  refine c_put (pc := 9) (T := TX7) (ty := .array .int) (ws1 := [(q, .inr (7, [.ref q1, .int 0])), (q1, .inl (wT G 0, 79, .inl (fun _ => 0)))]) tyX7 0 0 wf_RX7_13 inX7 tyX7_ok nmX7 rfl (by decide) rfl (Or.inr ⟨rfl, hi, rfl⟩) (tyX7_ok 0 (by decide)) rfl rfl rfl (Nat.le_of_ble_eq_true rfl) rfl dX7_init_9 ?_
  exact hret _ 12 _ ⟨fun i => match i with | 0 => q | 1 => q1 | _ => q, rfl, rfl⟩ dX7_init_12
