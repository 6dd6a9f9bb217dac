theorem kX0_init_3 : Cond.methodLink RX0 3 objectInit ∈ wsX0_init := by decide +kernel
theorem kX0_init_oi : Cond.instanceMethod objectInit ∈ wsX0_init := by decide +kernel
theorem kX0_init_oc : Cond.code objectInit ⟨#[0xb1]⟩ 1 none ∈ wsX0_init := by decide +kernel
theorem kX0_init_arrI : Cond.arrayClass (newarray.typeOf .int) ∈ wsX0_init := by decide +kernel
theorem kX0_init_9 : Cond.fieldLink RX0 9 "SecretBroker$Audit" "kinds" "[I" ∈ wsX0_init := by decide +kernel
theorem hX0_init_X0 : ∀ w ∈ wsX00, w ∈ wsX0_init := by decide +kernel
theorem kX0_init_15 : Cond.fieldLink RX0 15 "SecretBroker$Audit" "subjects" "[I" ∈ wsX0_init := by decide +kernel
theorem kX0_init_18 : Cond.fieldLink RX0 18 "SecretBroker$Audit" "details" "[I" ∈ wsX0_init := by decide +kernel
theorem kX0_init_arrJ : Cond.arrayClass (newarray.typeOf .long) ∈ wsX0_init := by decide +kernel
theorem kX0_init_21 : Cond.fieldLink RX0 21 "SecretBroker$Audit" "sums" "[J" ∈ wsX0_init := by decide +kernel
theorem kX0_init_25 : Cond.fieldLink RX0 25 "SecretBroker$Audit" "count" "I" ∈ wsX0_init := by decide +kernel
set_option maxHeartbeats 4000000 in
set_option maxRecDepth 100000 in
theorem i_X0 (l : Launch) (D : va_G) (cI cJ cZ : ClassId) (h0 : Nat) : zI (α := Nat → Nat) l yX0_init wsX0_init 1 12 4 2052 D (zTy cI cJ cZ) h0 (.inr (0, [.null, .null, .null, .null, .int 0])) [] (fun ad => ad 0 = h0) (fun ad => zwX0 cI cJ cZ ad zP0 zL0) := by
  refine z_ibody (cc := cX0_init) (own := RX0) (by decide +kernel) rfl rfl rfl (fun p e s m args below meth c A C hin hN => ?_)
  refine z_aload_n C dX0_init_0 rfl 0 rfl ?_
  refine z_objInit C kX0_init_3 kX0_init_oi kX0_init_oc (Nat.le_of_ble_eq_true rfl) (Nat.le_of_ble_eq_true rfl) dX0_init_1 ?_
  refine z_aload_n C dX0_init_4 rfl 0 rfl ?_
  refine z_sipush (v := 513) C dX0_init_5 (by decide) ?_
  refine z_newarr (ty := .int) (N := 513) (a0 := (513, .inl (fun _ => 0))) C kX0_init_arrI rfl 0 rfl (fun _ _ h => h) (fun _ => rfl) (by decide) rfl (Nat.le_of_ble_eq_true rfl) (Nat.le_of_ble_eq_true rfl) (Nat.le_of_ble_eq_true rfl) dX0_init_8 (fun q1 => ?_)
  refine z_putF (ws' := [(h0, .inr (0, [.ref q1, .null, .null, .null, .int 0])), (q1, .inl (cI, 513, .inl (fun _ => 0)))]) (ref := "SecretBroker$Audit") (ty := .array .int) C hin hX0_init_X0 tyX0 tyX0_ok nmX0 0 rfl rfl 0 (by decide) kX0_init_9 (fun _ h9 => h9) rfl rfl (by decide +kernel) rfl rfl (Nat.le_of_ble_eq_true rfl) dX0_init_10 rfl ?_
  refine z_aload_n C dX0_init_13 rfl 0 rfl ?_
  refine z_sipush (v := 513) C dX0_init_14 (by decide) ?_
  refine z_newarr (ty := .int) (N := 513) (a0 := (513, .inl (fun _ => 0))) C kX0_init_arrI rfl 0 rfl (fun _ _ h => h) (fun _ => rfl) (by decide) rfl (Nat.le_of_ble_eq_true rfl) (Nat.le_of_ble_eq_true rfl) (Nat.le_of_ble_eq_true rfl) dX0_init_17 (fun q2 => ?_)
  refine z_putF (ws' := [(h0, .inr (0, [.ref q1, .ref q2, .null, .null, .int 0])), (q1, .inl (cI, 513, .inl (fun _ => 0))), (q2, .inl (cI, 513, .inl (fun _ => 0)))]) (ref := "SecretBroker$Audit") (ty := .array .int) C hin hX0_init_X0 tyX0 tyX0_ok nmX0 0 rfl rfl 1 (by decide) kX0_init_15 (fun _ h9 => h9) rfl rfl (by decide +kernel) rfl rfl (Nat.le_of_ble_eq_true rfl) dX0_init_19 rfl ?_
  refine z_aload_n C dX0_init_22 rfl 0 rfl ?_
  refine z_sipush (v := 513) C dX0_init_23 (by decide) ?_
  refine z_newarr (ty := .int) (N := 513) (a0 := (513, .inl (fun _ => 0))) C kX0_init_arrI rfl 0 rfl (fun _ _ h => h) (fun _ => rfl) (by decide) rfl (Nat.le_of_ble_eq_true rfl) (Nat.le_of_ble_eq_true rfl) (Nat.le_of_ble_eq_true rfl) dX0_init_26 (fun q3 => ?_)
  refine z_putF (ws' := [(h0, .inr (0, [.ref q1, .ref q2, .ref q3, .null, .int 0])), (q1, .inl (cI, 513, .inl (fun _ => 0))), (q2, .inl (cI, 513, .inl (fun _ => 0))), (q3, .inl (cI, 513, .inl (fun _ => 0)))]) (ref := "SecretBroker$Audit") (ty := .array .int) C hin hX0_init_X0 tyX0 tyX0_ok nmX0 0 rfl rfl 2 (by decide) kX0_init_18 (fun _ h9 => h9) rfl rfl (by decide +kernel) rfl rfl (Nat.le_of_ble_eq_true rfl) dX0_init_28 rfl ?_
  refine z_aload_n C dX0_init_31 rfl 0 rfl ?_
  refine z_sipush (v := 513) C dX0_init_32 (by decide) ?_
  refine z_newarr (ty := .long) (N := 513) (a0 := (513, .inr (.inl (fun _ => 0)))) C kX0_init_arrJ rfl 1 rfl (fun _ _ h => h) (fun _ => rfl) (by decide) rfl (Nat.le_of_ble_eq_true rfl) (Nat.le_of_ble_eq_true rfl) (Nat.le_of_ble_eq_true rfl) dX0_init_35 (fun q4 => ?_)
  refine z_putF (ws' := [(h0, .inr (0, [.ref q1, .ref q2, .ref q3, .ref q4, .int 0])), (q1, .inl (cI, 513, .inl (fun _ => 0))), (q2, .inl (cI, 513, .inl (fun _ => 0))), (q3, .inl (cI, 513, .inl (fun _ => 0))), (q4, .inl (cJ, 513, .inr (.inl (fun _ => 0))))]) (ref := "SecretBroker$Audit") (ty := .array .long) C hin hX0_init_X0 tyX0 tyX0_ok nmX0 0 rfl rfl 3 (by decide) kX0_init_21 (fun _ h9 => h9) rfl rfl (by decide +kernel) rfl rfl (Nat.le_of_ble_eq_true rfl) dX0_init_37 rfl ?_
  refine z_aload_n C dX0_init_40 rfl 0 rfl ?_
  refine z_iconst (v := 0) C dX0_init_41 (by decide) ?_
  refine z_put (ws' := [(h0, .inr (0, [.ref q1, .ref q2, .ref q3, .ref q4, .int 0])), (q1, .inl (cI, 513, .inl (fun _ => 0))), (q2, .inl (cI, 513, .inl (fun _ => 0))), (q3, .inl (cI, 513, .inl (fun _ => 0))), (q4, .inl (cJ, 513, .inr (.inl (fun _ => 0))))]) (ref := "SecretBroker$Audit") (ty := .int) C hX0_init_X0 tyX0 tyX0_ok nmX0 0 rfl rfl 4 (by decide) kX0_init_25 (fun _ h9 => h9) rfl (by decide +kernel) rfl rfl (Nat.le_of_ble_eq_true rfl) dX0_init_42 rfl rfl ?_
  refine z_iwiden (k := 4) (n := 2052) (Nat.le_of_ble_eq_true rfl) (Nat.le_of_ble_eq_true rfl) ?_
  exact z_iend C dX0_init_45 rfl (fun k => ([h0, q1, q2, q3, q4] : List Nat).getD k 0) rfl rfl
theorem kX3_init_3 : Cond.methodLink RX3 3 objectInit ∈ wsX3_init := by decide +kernel
theorem kX3_init_oi : Cond.instanceMethod objectInit ∈ wsX3_init := by decide +kernel
theorem kX3_init_oc : Cond.code objectInit ⟨#[0xb1]⟩ 1 none ∈ wsX3_init := by decide +kernel
theorem kX3_init_arrI : Cond.arrayClass (newarray.typeOf .int) ∈ wsX3_init := by decide +kernel
theorem kX3_init_9 : Cond.fieldLink RX3 9 "SecretBroker$Mounts" "paths" "[I" ∈ wsX3_init := by decide +kernel
theorem hX3_init_X3 : ∀ w ∈ wsX30, w ∈ wsX3_init := by decide +kernel
theorem kX3_init_15 : Cond.fieldLink RX3 15 "SecretBroker$Mounts" "minutes" "[I" ∈ wsX3_init := by decide +kernel
theorem kX3_init_18 : Cond.fieldLink RX3 18 "SecretBroker$Mounts" "bounds" "[I" ∈ wsX3_init := by decide +kernel
theorem kX3_init_21 : Cond.fieldLink RX3 21 "SecretBroker$Mounts" "count" "I" ∈ wsX3_init := by decide +kernel
set_option maxHeartbeats 4000000 in
set_option maxRecDepth 100000 in
theorem i_X3 (l : Launch) (D : va_G) (cI cJ cZ : ClassId) (h0 : Nat) : zI (α := Nat → Nat) l yX3_init wsX3_init 1 12 3 18 D (zTy cI cJ cZ) h0 (.inr (2, [.null, .null, .null, .int 0])) [] (fun ad => ad 0 = h0) (fun ad => zwX3 cI cJ cZ ad zP0) := by
  refine z_ibody (cc := cX3_init) (own := RX3) (by decide +kernel) rfl rfl rfl (fun p e s m args below meth c A C hin hN => ?_)
  refine z_aload_n C dX3_init_0 rfl 0 rfl ?_
  refine z_objInit C kX3_init_3 kX3_init_oi kX3_init_oc (Nat.le_of_ble_eq_true rfl) (Nat.le_of_ble_eq_true rfl) dX3_init_1 ?_
  refine z_aload_n C dX3_init_4 rfl 0 rfl ?_
  refine z_bipush (v := 6) C dX3_init_5 (by decide) ?_
  refine z_newarr (ty := .int) (N := 6) (a0 := (6, .inl (fun _ => 0))) C kX3_init_arrI rfl 0 rfl (fun _ _ h => h) (fun _ => rfl) (by decide) rfl (Nat.le_of_ble_eq_true rfl) (Nat.le_of_ble_eq_true rfl) (Nat.le_of_ble_eq_true rfl) dX3_init_7 (fun q1 => ?_)
  refine z_putF (ws' := [(h0, .inr (2, [.ref q1, .null, .null, .int 0])), (q1, .inl (cI, 6, .inl (fun _ => 0)))]) (ref := "SecretBroker$Mounts") (ty := .array .int) C hin hX3_init_X3 tyX3 tyX3_ok nmX3 0 rfl rfl 0 (by decide) kX3_init_9 (fun _ h9 => h9) rfl rfl (by decide +kernel) rfl rfl (Nat.le_of_ble_eq_true rfl) dX3_init_9 rfl ?_
  refine z_aload_n C dX3_init_12 rfl 0 rfl ?_
  refine z_bipush (v := 6) C dX3_init_13 (by decide) ?_
  refine z_newarr (ty := .int) (N := 6) (a0 := (6, .inl (fun _ => 0))) C kX3_init_arrI rfl 0 rfl (fun _ _ h => h) (fun _ => rfl) (by decide) rfl (Nat.le_of_ble_eq_true rfl) (Nat.le_of_ble_eq_true rfl) (Nat.le_of_ble_eq_true rfl) dX3_init_15 (fun q2 => ?_)
  refine z_putF (ws' := [(h0, .inr (2, [.ref q1, .ref q2, .null, .int 0])), (q1, .inl (cI, 6, .inl (fun _ => 0))), (q2, .inl (cI, 6, .inl (fun _ => 0)))]) (ref := "SecretBroker$Mounts") (ty := .array .int) C hin hX3_init_X3 tyX3 tyX3_ok nmX3 0 rfl rfl 1 (by decide) kX3_init_15 (fun _ h9 => h9) rfl rfl (by decide +kernel) rfl rfl (Nat.le_of_ble_eq_true rfl) dX3_init_17 rfl ?_
  refine z_aload_n C dX3_init_20 rfl 0 rfl ?_
  refine z_bipush (v := 6) C dX3_init_21 (by decide) ?_
  refine z_newarr (ty := .int) (N := 6) (a0 := (6, .inl (fun _ => 0))) C kX3_init_arrI rfl 0 rfl (fun _ _ h => h) (fun _ => rfl) (by decide) rfl (Nat.le_of_ble_eq_true rfl) (Nat.le_of_ble_eq_true rfl) (Nat.le_of_ble_eq_true rfl) dX3_init_23 (fun q3 => ?_)
  refine z_putF (ws' := [(h0, .inr (2, [.ref q1, .ref q2, .ref q3, .int 0])), (q1, .inl (cI, 6, .inl (fun _ => 0))), (q2, .inl (cI, 6, .inl (fun _ => 0))), (q3, .inl (cI, 6, .inl (fun _ => 0)))]) (ref := "SecretBroker$Mounts") (ty := .array .int) C hin hX3_init_X3 tyX3 tyX3_ok nmX3 0 rfl rfl 2 (by decide) kX3_init_18 (fun _ h9 => h9) rfl rfl (by decide +kernel) rfl rfl (Nat.le_of_ble_eq_true rfl) dX3_init_25 rfl ?_
  refine z_aload_n C dX3_init_28 rfl 0 rfl ?_
  refine z_iconst (v := 0) C dX3_init_29 (by decide) ?_
  refine z_put (ws' := [(h0, .inr (2, [.ref q1, .ref q2, .ref q3, .int 0])), (q1, .inl (cI, 6, .inl (fun _ => 0))), (q2, .inl (cI, 6, .inl (fun _ => 0))), (q3, .inl (cI, 6, .inl (fun _ => 0)))]) (ref := "SecretBroker$Mounts") (ty := .int) C hX3_init_X3 tyX3 tyX3_ok nmX3 0 rfl rfl 3 (by decide) kX3_init_21 (fun _ h9 => h9) rfl (by decide +kernel) rfl rfl (Nat.le_of_ble_eq_true rfl) dX3_init_30 rfl rfl ?_
  refine z_iwiden (k := 3) (n := 18) (Nat.le_of_ble_eq_true rfl) (Nat.le_of_ble_eq_true rfl) ?_
  exact z_iend C dX3_init_33 rfl (fun k => ([h0, q1, q2, q3] : List Nat).getD k 0) rfl rfl
theorem kX5_init_3 : Cond.methodLink RX5 3 objectInit ∈ wsX5_init := by decide +kernel
theorem kX5_init_oi : Cond.instanceMethod objectInit ∈ wsX5_init := by decide +kernel
theorem kX5_init_oc : Cond.code objectInit ⟨#[0xb1]⟩ 1 none ∈ wsX5_init := by decide +kernel
theorem kX5_init_arrI : Cond.arrayClass (newarray.typeOf .int) ∈ wsX5_init := by decide +kernel
theorem kX5_init_9 : Cond.fieldLink RX5 9 "SecretBroker$Policies" "ruleCounts" "[I" ∈ wsX5_init := by decide +kernel
theorem hX5_init_X5 : ∀ w ∈ wsX50, w ∈ wsX5_init := by decide +kernel
theorem kX5_init_15 : Cond.fieldLink RX5 15 "SecretBroker$Policies" "patterns" "[I" ∈ wsX5_init := by decide +kernel
theorem kX5_init_arrZ : Cond.arrayClass (newarray.typeOf .boolean) ∈ wsX5_init := by decide +kernel
theorem kX5_init_18 : Cond.fieldLink RX5 18 "SecretBroker$Policies" "opens" "[Z" ∈ wsX5_init := by decide +kernel
theorem kX5_init_22 : Cond.fieldLink RX5 22 "SecretBroker$Policies" "sets" "[I" ∈ wsX5_init := by decide +kernel
theorem kX5_init_25 : Cond.fieldLink RX5 25 "SecretBroker$Policies" "count" "I" ∈ wsX5_init := by decide +kernel
set_option maxHeartbeats 4000000 in
set_option maxRecDepth 100000 in
theorem i_X5 (l : Launch) (D : va_G) (cI cJ cZ : ClassId) (h0 : Nat) : zI (α := Nat → Nat) l yX5_init wsX5_init 1 12 4 152 D (zTy cI cJ cZ) h0 (.inr (3, [.null, .null, .null, .null, .int 0])) [] (fun ad => ad 0 = h0) (fun ad => zwX5 cI cJ cZ ad zP0) := by
  refine z_ibody (cc := cX5_init) (own := RX5) (by decide +kernel) rfl rfl rfl (fun p e s m args below meth c A C hin hN => ?_)
  refine z_aload_n C dX5_init_0 rfl 0 rfl ?_
  refine z_objInit C kX5_init_3 kX5_init_oi kX5_init_oc (Nat.le_of_ble_eq_true rfl) (Nat.le_of_ble_eq_true rfl) dX5_init_1 ?_
  refine z_aload_n C dX5_init_4 rfl 0 rfl ?_
  refine z_bipush (v := 8) C dX5_init_5 (by decide) ?_
  refine z_newarr (ty := .int) (N := 8) (a0 := (8, .inl (fun _ => 0))) C kX5_init_arrI rfl 0 rfl (fun _ _ h => h) (fun _ => rfl) (by decide) rfl (Nat.le_of_ble_eq_true rfl) (Nat.le_of_ble_eq_true rfl) (Nat.le_of_ble_eq_true rfl) dX5_init_7 (fun q1 => ?_)
  refine z_putF (ws' := [(h0, .inr (3, [.ref q1, .null, .null, .null, .int 0])), (q1, .inl (cI, 8, .inl (fun _ => 0)))]) (ref := "SecretBroker$Policies") (ty := .array .int) C hin hX5_init_X5 tyX5 tyX5_ok nmX5 0 rfl rfl 0 (by decide) kX5_init_9 (fun _ h9 => h9) rfl rfl (by decide +kernel) rfl rfl (Nat.le_of_ble_eq_true rfl) dX5_init_9 rfl ?_
  refine z_aload_n C dX5_init_12 rfl 0 rfl ?_
  refine z_bipush (v := 48) C dX5_init_13 (by decide) ?_
  refine z_newarr (ty := .int) (N := 48) (a0 := (48, .inl (fun _ => 0))) C kX5_init_arrI rfl 0 rfl (fun _ _ h => h) (fun _ => rfl) (by decide) rfl (Nat.le_of_ble_eq_true rfl) (Nat.le_of_ble_eq_true rfl) (Nat.le_of_ble_eq_true rfl) dX5_init_15 (fun q2 => ?_)
  refine z_putF (ws' := [(h0, .inr (3, [.ref q1, .ref q2, .null, .null, .int 0])), (q1, .inl (cI, 8, .inl (fun _ => 0))), (q2, .inl (cI, 48, .inl (fun _ => 0)))]) (ref := "SecretBroker$Policies") (ty := .array .int) C hin hX5_init_X5 tyX5 tyX5_ok nmX5 0 rfl rfl 1 (by decide) kX5_init_15 (fun _ h9 => h9) rfl rfl (by decide +kernel) rfl rfl (Nat.le_of_ble_eq_true rfl) dX5_init_17 rfl ?_
  refine z_aload_n C dX5_init_20 rfl 0 rfl ?_
  refine z_bipush (v := 48) C dX5_init_21 (by decide) ?_
  refine z_newarr (ty := .boolean) (N := 48) (a0 := (48, .inl (fun _ => 0))) C kX5_init_arrZ rfl 2 rfl (fun _ _ h => h) (fun _ => rfl) (by decide) rfl (Nat.le_of_ble_eq_true rfl) (Nat.le_of_ble_eq_true rfl) (Nat.le_of_ble_eq_true rfl) dX5_init_23 (fun q3 => ?_)
  refine z_putF (ws' := [(h0, .inr (3, [.ref q1, .ref q2, .ref q3, .null, .int 0])), (q1, .inl (cI, 8, .inl (fun _ => 0))), (q2, .inl (cI, 48, .inl (fun _ => 0))), (q3, .inl (cZ, 48, .inl (fun _ => 0)))]) (ref := "SecretBroker$Policies") (ty := .array .boolean) C hin hX5_init_X5 tyX5 tyX5_ok nmX5 0 rfl rfl 2 (by decide) kX5_init_18 (fun _ h9 => h9) rfl rfl (by decide +kernel) rfl rfl (Nat.le_of_ble_eq_true rfl) dX5_init_25 rfl ?_
  refine z_aload_n C dX5_init_28 rfl 0 rfl ?_
  refine z_bipush (v := 48) C dX5_init_29 (by decide) ?_
  refine z_newarr (ty := .int) (N := 48) (a0 := (48, .inl (fun _ => 0))) C kX5_init_arrI rfl 0 rfl (fun _ _ h => h) (fun _ => rfl) (by decide) rfl (Nat.le_of_ble_eq_true rfl) (Nat.le_of_ble_eq_true rfl) (Nat.le_of_ble_eq_true rfl) dX5_init_31 (fun q4 => ?_)
  refine z_putF (ws' := [(h0, .inr (3, [.ref q1, .ref q2, .ref q3, .ref q4, .int 0])), (q1, .inl (cI, 8, .inl (fun _ => 0))), (q2, .inl (cI, 48, .inl (fun _ => 0))), (q3, .inl (cZ, 48, .inl (fun _ => 0))), (q4, .inl (cI, 48, .inl (fun _ => 0)))]) (ref := "SecretBroker$Policies") (ty := .array .int) C hin hX5_init_X5 tyX5 tyX5_ok nmX5 0 rfl rfl 3 (by decide) kX5_init_22 (fun _ h9 => h9) rfl rfl (by decide +kernel) rfl rfl (Nat.le_of_ble_eq_true rfl) dX5_init_33 rfl ?_
  refine z_aload_n C dX5_init_36 rfl 0 rfl ?_
  refine z_iconst (v := 0) C dX5_init_37 (by decide) ?_
  refine z_put (ws' := [(h0, .inr (3, [.ref q1, .ref q2, .ref q3, .ref q4, .int 0])), (q1, .inl (cI, 8, .inl (fun _ => 0))), (q2, .inl (cI, 48, .inl (fun _ => 0))), (q3, .inl (cZ, 48, .inl (fun _ => 0))), (q4, .inl (cI, 48, .inl (fun _ => 0)))]) (ref := "SecretBroker$Policies") (ty := .int) C hX5_init_X5 tyX5 tyX5_ok nmX5 0 rfl rfl 4 (by decide) kX5_init_25 (fun _ h9 => h9) rfl (by decide +kernel) rfl rfl (Nat.le_of_ble_eq_true rfl) dX5_init_38 rfl rfl ?_
  refine z_iwiden (k := 4) (n := 152) (Nat.le_of_ble_eq_true rfl) (Nat.le_of_ble_eq_true rfl) ?_
  exact z_iend C dX5_init_41 rfl (fun k => ([h0, q1, q2, q3, q4] : List Nat).getD k 0) rfl rfl
theorem kX2_init_3 : Cond.methodLink RX2 3 objectInit ∈ wsX2_init := by decide +kernel
theorem kX2_init_oi : Cond.instanceMethod objectInit ∈ wsX2_init := by decide +kernel
theorem kX2_init_oc : Cond.code objectInit ⟨#[0xb1]⟩ 1 none ∈ wsX2_init := by decide +kernel
theorem kX2_init_arrI : Cond.arrayClass (newarray.typeOf .int) ∈ wsX2_init := by decide +kernel
theorem kX2_init_9 : Cond.fieldLink RX2 9 "SecretBroker$Leased" "beginnings" "[I" ∈ wsX2_init := by decide +kernel
theorem hX2_init_X6 : ∀ w ∈ wsX60, w ∈ wsX2_init := by decide +kernel
theorem kX2_init_15 : Cond.fieldLink RX2 15 "SecretBroker$Leased" "ends" "[I" ∈ wsX2_init := by decide +kernel
theorem kX2_init_18 : Cond.fieldLink RX2 18 "SecretBroker$Leased" "bounds" "[I" ∈ wsX2_init := by decide +kernel
theorem kX2_init_arrZ : Cond.arrayClass (newarray.typeOf .boolean) ∈ wsX2_init := by decide +kernel
theorem kX2_init_21 : Cond.fieldLink RX2 21 "SecretBroker$Leased" "on" "[Z" ∈ wsX2_init := by decide +kernel
theorem kX2_init_25 : Cond.fieldLink RX2 25 "SecretBroker$Leased" "made" "I" ∈ wsX2_init := by decide +kernel
theorem kX2_init_29 : Cond.fieldLink RX2 29 "SecretBroker$Leased" "living" "I" ∈ wsX2_init := by decide +kernel
set_option maxHeartbeats 4000000 in
set_option maxRecDepth 100000 in
theorem i_X2_6 (l : Launch) (D : va_G) (cI cJ cZ : ClassId) (h0 : Nat) : zI (α := Nat × Nat × Nat × Nat) l yX2_init wsX2_init 1 12 4 2052 D (zTy cI cJ cZ) h0 (.inr (4, [.null, .null, .null, .null, .int 0, .int 0, .null, .null, .null])) [] (fun ad => True) (fun ad => [(h0, .inr (4, [.ref ad.1, .ref ad.2.1, .ref ad.2.2.1, .ref ad.2.2.2, .int 0, .int 0, .null, .null, .null])), (ad.1, .inl (cI, 513, .inl (fun _ => 0))), (ad.2.1, .inl (cI, 513, .inl (fun _ => 0))), (ad.2.2.1, .inl (cI, 513, .inl (fun _ => 0))), (ad.2.2.2, .inl (cZ, 513, .inl (fun _ => 0)))]) := by
  refine z_ibody (cc := cX2_init) (own := RX2) (by decide +kernel) rfl rfl rfl (fun p e s m args below meth c A C hin hN => ?_)
  refine z_aload_n C dX2_init_0 rfl 0 rfl ?_
  refine z_objInit C kX2_init_3 kX2_init_oi kX2_init_oc (Nat.le_of_ble_eq_true rfl) (Nat.le_of_ble_eq_true rfl) dX2_init_1 ?_
  refine z_aload_n C dX2_init_4 rfl 0 rfl ?_
  refine z_sipush (v := 513) C dX2_init_5 (by decide) ?_
  refine z_newarr (ty := .int) (N := 513) (a0 := (513, .inl (fun _ => 0))) C kX2_init_arrI rfl 0 rfl (fun _ _ h => h) (fun _ => rfl) (by decide) rfl (Nat.le_of_ble_eq_true rfl) (Nat.le_of_ble_eq_true rfl) (Nat.le_of_ble_eq_true rfl) dX2_init_8 (fun q1 => ?_)
  refine z_putF (ws' := [(h0, .inr (4, [.ref q1, .null, .null, .null, .int 0, .int 0, .null, .null, .null])), (q1, .inl (cI, 513, .inl (fun _ => 0)))]) (ref := "SecretBroker$Leased") (ty := .array .int) C hin hX2_init_X6 tyX6 tyX6_ok nmX6 0 rfl rfl 0 (by decide) kX2_init_9 (fun _ h9 => h9) rfl rfl (by decide +kernel) rfl rfl (Nat.le_of_ble_eq_true rfl) dX2_init_10 rfl ?_
  refine z_aload_n C dX2_init_13 rfl 0 rfl ?_
  refine z_sipush (v := 513) C dX2_init_14 (by decide) ?_
  refine z_newarr (ty := .int) (N := 513) (a0 := (513, .inl (fun _ => 0))) C kX2_init_arrI rfl 0 rfl (fun _ _ h => h) (fun _ => rfl) (by decide) rfl (Nat.le_of_ble_eq_true rfl) (Nat.le_of_ble_eq_true rfl) (Nat.le_of_ble_eq_true rfl) dX2_init_17 (fun q2 => ?_)
  refine z_putF (ws' := [(h0, .inr (4, [.ref q1, .ref q2, .null, .null, .int 0, .int 0, .null, .null, .null])), (q1, .inl (cI, 513, .inl (fun _ => 0))), (q2, .inl (cI, 513, .inl (fun _ => 0)))]) (ref := "SecretBroker$Leased") (ty := .array .int) C hin hX2_init_X6 tyX6 tyX6_ok nmX6 0 rfl rfl 1 (by decide) kX2_init_15 (fun _ h9 => h9) rfl rfl (by decide +kernel) rfl rfl (Nat.le_of_ble_eq_true rfl) dX2_init_19 rfl ?_
  refine z_aload_n C dX2_init_22 rfl 0 rfl ?_
  refine z_sipush (v := 513) C dX2_init_23 (by decide) ?_
  refine z_newarr (ty := .int) (N := 513) (a0 := (513, .inl (fun _ => 0))) C kX2_init_arrI rfl 0 rfl (fun _ _ h => h) (fun _ => rfl) (by decide) rfl (Nat.le_of_ble_eq_true rfl) (Nat.le_of_ble_eq_true rfl) (Nat.le_of_ble_eq_true rfl) dX2_init_26 (fun q3 => ?_)
  refine z_putF (ws' := [(h0, .inr (4, [.ref q1, .ref q2, .ref q3, .null, .int 0, .int 0, .null, .null, .null])), (q1, .inl (cI, 513, .inl (fun _ => 0))), (q2, .inl (cI, 513, .inl (fun _ => 0))), (q3, .inl (cI, 513, .inl (fun _ => 0)))]) (ref := "SecretBroker$Leased") (ty := .array .int) C hin hX2_init_X6 tyX6 tyX6_ok nmX6 0 rfl rfl 2 (by decide) kX2_init_18 (fun _ h9 => h9) rfl rfl (by decide +kernel) rfl rfl (Nat.le_of_ble_eq_true rfl) dX2_init_28 rfl ?_
  refine z_aload_n C dX2_init_31 rfl 0 rfl ?_
  refine z_sipush (v := 513) C dX2_init_32 (by decide) ?_
  refine z_newarr (ty := .boolean) (N := 513) (a0 := (513, .inl (fun _ => 0))) C kX2_init_arrZ rfl 2 rfl (fun _ _ h => h) (fun _ => rfl) (by decide) rfl (Nat.le_of_ble_eq_true rfl) (Nat.le_of_ble_eq_true rfl) (Nat.le_of_ble_eq_true rfl) dX2_init_35 (fun q4 => ?_)
  refine z_putF (ws' := [(h0, .inr (4, [.ref q1, .ref q2, .ref q3, .ref q4, .int 0, .int 0, .null, .null, .null])), (q1, .inl (cI, 513, .inl (fun _ => 0))), (q2, .inl (cI, 513, .inl (fun _ => 0))), (q3, .inl (cI, 513, .inl (fun _ => 0))), (q4, .inl (cZ, 513, .inl (fun _ => 0)))]) (ref := "SecretBroker$Leased") (ty := .array .boolean) C hin hX2_init_X6 tyX6 tyX6_ok nmX6 0 rfl rfl 3 (by decide) kX2_init_21 (fun _ h9 => h9) rfl rfl (by decide +kernel) rfl rfl (Nat.le_of_ble_eq_true rfl) dX2_init_37 rfl ?_
  refine z_aload_n C dX2_init_40 rfl 0 rfl ?_
  refine z_iconst (v := 0) C dX2_init_41 (by decide) ?_
  refine z_put (ws' := [(h0, .inr (4, [.ref q1, .ref q2, .ref q3, .ref q4, .int 0, .int 0, .null, .null, .null])), (q1, .inl (cI, 513, .inl (fun _ => 0))), (q2, .inl (cI, 513, .inl (fun _ => 0))), (q3, .inl (cI, 513, .inl (fun _ => 0))), (q4, .inl (cZ, 513, .inl (fun _ => 0)))]) (ref := "SecretBroker$Leased") (ty := .int) C hX2_init_X6 tyX6 tyX6_ok nmX6 0 rfl rfl 4 (by decide) kX2_init_25 (fun _ h9 => h9) rfl (by decide +kernel) rfl rfl (Nat.le_of_ble_eq_true rfl) dX2_init_42 rfl rfl ?_
  refine z_aload_n C dX2_init_45 rfl 0 rfl ?_
  refine z_iconst (v := 0) C dX2_init_46 (by decide) ?_
  refine z_put (ws' := [(h0, .inr (4, [.ref q1, .ref q2, .ref q3, .ref q4, .int 0, .int 0, .null, .null, .null])), (q1, .inl (cI, 513, .inl (fun _ => 0))), (q2, .inl (cI, 513, .inl (fun _ => 0))), (q3, .inl (cI, 513, .inl (fun _ => 0))), (q4, .inl (cZ, 513, .inl (fun _ => 0)))]) (ref := "SecretBroker$Leased") (ty := .int) C hX2_init_X6 tyX6 tyX6_ok nmX6 0 rfl rfl 5 (by decide) kX2_init_29 (fun _ h9 => h9) rfl (by decide +kernel) rfl rfl (Nat.le_of_ble_eq_true rfl) dX2_init_47 rfl rfl ?_
  refine z_iwiden (k := 4) (n := 2052) (Nat.le_of_ble_eq_true rfl) (Nat.le_of_ble_eq_true rfl) ?_
  exact z_iend C dX2_init_50 rfl (q1, q2, q3, q4) trivial rfl
theorem hX2_init_X1 : ∀ w ∈ wsX10, w ∈ wsX2_init := by decide +kernel
set_option maxHeartbeats 4000000 in
set_option maxRecDepth 100000 in
theorem i_X2_1 (l : Launch) (D : va_G) (cI cJ cZ : ClassId) (h0 : Nat) : zI (α := Nat × Nat × Nat × Nat) l yX2_init wsX2_init 1 12 4 2052 D (zTy cI cJ cZ) h0 (.inr (1, [.null, .null, .null, .null, .int 0, .int 0, .null, .null])) [] (fun ad => True) (fun ad => [(h0, .inr (1, [.ref ad.1, .ref ad.2.1, .ref ad.2.2.1, .ref ad.2.2.2, .int 0, .int 0, .null, .null])), (ad.1, .inl (cI, 513, .inl (fun _ => 0))), (ad.2.1, .inl (cI, 513, .inl (fun _ => 0))), (ad.2.2.1, .inl (cI, 513, .inl (fun _ => 0))), (ad.2.2.2, .inl (cZ, 513, .inl (fun _ => 0)))]) := by
  refine z_ibody (cc := cX2_init) (own := RX2) (by decide +kernel) rfl rfl rfl (fun p e s m args below meth c A C hin hN => ?_)
  refine z_aload_n C dX2_init_0 rfl 0 rfl ?_
  refine z_objInit C kX2_init_3 kX2_init_oi kX2_init_oc (Nat.le_of_ble_eq_true rfl) (Nat.le_of_ble_eq_true rfl) dX2_init_1 ?_
  refine z_aload_n C dX2_init_4 rfl 0 rfl ?_
  refine z_sipush (v := 513) C dX2_init_5 (by decide) ?_
  refine z_newarr (ty := .int) (N := 513) (a0 := (513, .inl (fun _ => 0))) C kX2_init_arrI rfl 0 rfl (fun _ _ h => h) (fun _ => rfl) (by decide) rfl (Nat.le_of_ble_eq_true rfl) (Nat.le_of_ble_eq_true rfl) (Nat.le_of_ble_eq_true rfl) dX2_init_8 (fun q1 => ?_)
  refine z_putF (ws' := [(h0, .inr (1, [.ref q1, .null, .null, .null, .int 0, .int 0, .null, .null])), (q1, .inl (cI, 513, .inl (fun _ => 0)))]) (ref := "SecretBroker$Leased") (ty := .array .int) C hin hX2_init_X1 tyX1 tyX1_ok nmX1 0 rfl rfl 0 (by decide) kX2_init_9 (fun _ h9 => h9) rfl rfl (by decide +kernel) rfl rfl (Nat.le_of_ble_eq_true rfl) dX2_init_10 rfl ?_
  refine z_aload_n C dX2_init_13 rfl 0 rfl ?_
  refine z_sipush (v := 513) C dX2_init_14 (by decide) ?_
  refine z_newarr (ty := .int) (N := 513) (a0 := (513, .inl (fun _ => 0))) C kX2_init_arrI rfl 0 rfl (fun _ _ h => h) (fun _ => rfl) (by decide) rfl (Nat.le_of_ble_eq_true rfl) (Nat.le_of_ble_eq_true rfl) (Nat.le_of_ble_eq_true rfl) dX2_init_17 (fun q2 => ?_)
  refine z_putF (ws' := [(h0, .inr (1, [.ref q1, .ref q2, .null, .null, .int 0, .int 0, .null, .null])), (q1, .inl (cI, 513, .inl (fun _ => 0))), (q2, .inl (cI, 513, .inl (fun _ => 0)))]) (ref := "SecretBroker$Leased") (ty := .array .int) C hin hX2_init_X1 tyX1 tyX1_ok nmX1 0 rfl rfl 1 (by decide) kX2_init_15 (fun _ h9 => h9) rfl rfl (by decide +kernel) rfl rfl (Nat.le_of_ble_eq_true rfl) dX2_init_19 rfl ?_
  refine z_aload_n C dX2_init_22 rfl 0 rfl ?_
  refine z_sipush (v := 513) C dX2_init_23 (by decide) ?_
  refine z_newarr (ty := .int) (N := 513) (a0 := (513, .inl (fun _ => 0))) C kX2_init_arrI rfl 0 rfl (fun _ _ h => h) (fun _ => rfl) (by decide) rfl (Nat.le_of_ble_eq_true rfl) (Nat.le_of_ble_eq_true rfl) (Nat.le_of_ble_eq_true rfl) dX2_init_26 (fun q3 => ?_)
  refine z_putF (ws' := [(h0, .inr (1, [.ref q1, .ref q2, .ref q3, .null, .int 0, .int 0, .null, .null])), (q1, .inl (cI, 513, .inl (fun _ => 0))), (q2, .inl (cI, 513, .inl (fun _ => 0))), (q3, .inl (cI, 513, .inl (fun _ => 0)))]) (ref := "SecretBroker$Leased") (ty := .array .int) C hin hX2_init_X1 tyX1 tyX1_ok nmX1 0 rfl rfl 2 (by decide) kX2_init_18 (fun _ h9 => h9) rfl rfl (by decide +kernel) rfl rfl (Nat.le_of_ble_eq_true rfl) dX2_init_28 rfl ?_
  refine z_aload_n C dX2_init_31 rfl 0 rfl ?_
  refine z_sipush (v := 513) C dX2_init_32 (by decide) ?_
  refine z_newarr (ty := .boolean) (N := 513) (a0 := (513, .inl (fun _ => 0))) C kX2_init_arrZ rfl 2 rfl (fun _ _ h => h) (fun _ => rfl) (by decide) rfl (Nat.le_of_ble_eq_true rfl) (Nat.le_of_ble_eq_true rfl) (Nat.le_of_ble_eq_true rfl) dX2_init_35 (fun q4 => ?_)
  refine z_putF (ws' := [(h0, .inr (1, [.ref q1, .ref q2, .ref q3, .ref q4, .int 0, .int 0, .null, .null])), (q1, .inl (cI, 513, .inl (fun _ => 0))), (q2, .inl (cI, 513, .inl (fun _ => 0))), (q3, .inl (cI, 513, .inl (fun _ => 0))), (q4, .inl (cZ, 513, .inl (fun _ => 0)))]) (ref := "SecretBroker$Leased") (ty := .array .boolean) C hin hX2_init_X1 tyX1 tyX1_ok nmX1 0 rfl rfl 3 (by decide) kX2_init_21 (fun _ h9 => h9) rfl rfl (by decide +kernel) rfl rfl (Nat.le_of_ble_eq_true rfl) dX2_init_37 rfl ?_
  refine z_aload_n C dX2_init_40 rfl 0 rfl ?_
  refine z_iconst (v := 0) C dX2_init_41 (by decide) ?_
  refine z_put (ws' := [(h0, .inr (1, [.ref q1, .ref q2, .ref q3, .ref q4, .int 0, .int 0, .null, .null])), (q1, .inl (cI, 513, .inl (fun _ => 0))), (q2, .inl (cI, 513, .inl (fun _ => 0))), (q3, .inl (cI, 513, .inl (fun _ => 0))), (q4, .inl (cZ, 513, .inl (fun _ => 0)))]) (ref := "SecretBroker$Leased") (ty := .int) C hX2_init_X1 tyX1 tyX1_ok nmX1 0 rfl rfl 4 (by decide) kX2_init_25 (fun _ h9 => h9) rfl (by decide +kernel) rfl rfl (Nat.le_of_ble_eq_true rfl) dX2_init_42 rfl rfl ?_
  refine z_aload_n C dX2_init_45 rfl 0 rfl ?_
  refine z_iconst (v := 0) C dX2_init_46 (by decide) ?_
  refine z_put (ws' := [(h0, .inr (1, [.ref q1, .ref q2, .ref q3, .ref q4, .int 0, .int 0, .null, .null])), (q1, .inl (cI, 513, .inl (fun _ => 0))), (q2, .inl (cI, 513, .inl (fun _ => 0))), (q3, .inl (cI, 513, .inl (fun _ => 0))), (q4, .inl (cZ, 513, .inl (fun _ => 0)))]) (ref := "SecretBroker$Leased") (ty := .int) C hX2_init_X1 tyX1 tyX1_ok nmX1 0 rfl rfl 5 (by decide) kX2_init_29 (fun _ h9 => h9) rfl (by decide +kernel) rfl rfl (Nat.le_of_ble_eq_true rfl) dX2_init_47 rfl rfl ?_
  refine z_iwiden (k := 4) (n := 2052) (Nat.le_of_ble_eq_true rfl) (Nat.le_of_ble_eq_true rfl) ?_
  exact z_iend C dX2_init_50 rfl (q1, q2, q3, q4) trivial rfl
def zTv : Int32 := ((zs (zs (za (za (za (za zP0 0 (zP0 4 0) 0) 1 (zP0 4 0) (-1)) 2 (zP0 4 0) 0) 3 (zP0 4 0) (vp_nar .boolean 1)) 5 ((zP0 5 0) + 1)) 4 ((zP0 4 0) + 1)) 4 0) - 1
theorem zix0 {α : Type} (n : Nat) (h : 0 < n) (a : Option α) : zix 0 n a = a := by
  unfold zix
  rw [if_neg]
  rintro (q | q)
  · exact absurd q (by decide)
  · have h0 : (0 : Int32).toNatClampNeg = 0 := by decide
    omega
theorem zT1_ok : f_X2_add zP0 0 (-1) 0 = some (zTv, zT1) := by
  unfold f_X2_add
  rw [if_pos (show zP0 4 0 < 513 by unfold zP0; decide)]
  show zix 0 513 (zix 0 513 (zix 0 513 (zix 0 513 _))) = _
  rw [zix0 _ (by decide), zix0 _ (by decide), zix0 _ (by decide), zix0 _ (by decide)]
  rfl
theorem zT1_40 : zT1 4 0 = 1 := by
  show (zP0 4 0) + 1 = 1
  unfold zP0; decide
theorem zT2_ok : f_X6_describe zT1 0 (-1) 0 (-1) = some zT2 := by
  have h : f_X2_has zT1 0 = some 1 := by
    unfold f_X2_has
    rw [if_neg (by decide), zT1_40, if_neg (by decide)]
  unfold f_X6_describe
  rw [h]
  rw [show ∀ f : Int32 → Option SS, (some (1 : Int32)).bind f = f 1 from fun _ => rfl]
  rw [if_neg (by decide), zix0 _ (by decide), zix0 _ (by decide), zix0 _ (by decide)]
  rfl
theorem kX6_init_ini2 : Cond.initialized yX2_init.cls ∈ wsX6_init := by decide +kernel
theorem kX6_init_inst2 : Cond.instanceMethod yX2_init ∈ wsX6_init := by decide +kernel
theorem kX6_init_arrI : Cond.arrayClass (newarray.typeOf .int) ∈ wsX6_init := by decide +kernel
theorem kX6_init_9 : Cond.fieldLink RX6 9 "SecretBroker$Tokens" "parents" "[I" ∈ wsX6_init := by decide +kernel
theorem hX6_init_X6 : ∀ w ∈ wsX60, w ∈ wsX6_init := by decide +kernel
theorem kX6_init_15 : Cond.fieldLink RX6 15 "SecretBroker$Tokens" "policySets" "[I" ∈ wsX6_init := by decide +kernel
theorem kX6_init_18 : Cond.fieldLink RX6 18 "SecretBroker$Tokens" "uses" "[I" ∈ wsX6_init := by decide +kernel
set_option maxHeartbeats 4000000 in
set_option maxRecDepth 100000 in
theorem i_X6 (l : Launch) (D : va_G) (cI cJ cZ : ClassId) (h0 : Nat) : zI (α := Nat → Nat) l yX6_init wsX6_init 2 45 7 3591 D (zTy cI cJ cZ) h0 (.inr (4, [.null, .null, .null, .null, .int 0, .int 0, .null, .null, .null])) [(RX6, 3, yX2_init, "SecretBroker")] (fun ad => ad 0 = h0) (fun ad => zwX6 cI cJ cZ ad zT2) := by
  refine z_ibody (cc := cX6_init) (own := RX6) (by decide +kernel) rfl rfl rfl (fun p e s m args below meth c A C hin hN => ?_)
  refine z_aload_n C dX6_init_0 rfl 0 rfl ?_
  refine z_callIN (maxL := 1) (host := "SecretBroker") C hN (i_X2_6 l D cI cJ cZ h0) (fun _ h => absurd h List.not_mem_nil) gX6_init_X2_init_n3 rfl kX6_init_ini2 List.mem_cons_self kX6_init_inst2 rfl (by decide +kernel) ⟨(Nat.le_of_ble_eq_true rfl), (Nat.le_of_ble_eq_true rfl)⟩ ⟨(Nat.le_of_ble_eq_true rfl), (Nat.le_of_ble_eq_true rfl)⟩ [] [] rfl (Nat.le_of_ble_eq_true rfl) dX6_init_1 (fun a _ => ?_)
  refine z_ws (ws' := [(h0, .inr (4, [.ref a.1, .ref a.2.1, .ref a.2.2.1, .ref a.2.2.2, .int 0, .int 0, .null, .null, .null])), (a.1, .inl (cI, 513, .inl (fun _ => 0))), (a.2.1, .inl (cI, 513, .inl (fun _ => 0))), (a.2.2.1, .inl (cI, 513, .inl (fun _ => 0))), (a.2.2.2, .inl (cZ, 513, .inl (fun _ => 0)))]) rfl ?_
  refine z_aload_n C dX6_init_4 rfl 0 rfl ?_
  refine z_sipush (v := 513) C dX6_init_5 (by decide) ?_
  refine z_newarr (ty := .int) (N := 513) (a0 := (513, .inl (fun _ => 0))) C kX6_init_arrI rfl 0 rfl (fun _ _ h => h) (fun _ => rfl) (by decide) rfl (Nat.le_of_ble_eq_true rfl) (Nat.le_of_ble_eq_true rfl) (Nat.le_of_ble_eq_true rfl) dX6_init_8 (fun q1 => ?_)
  refine z_putF (ws' := [(h0, .inr (4, [.ref a.1, .ref a.2.1, .ref a.2.2.1, .ref a.2.2.2, .int 0, .int 0, .ref q1, .null, .null])), (a.1, .inl (cI, 513, .inl (fun _ => 0))), (a.2.1, .inl (cI, 513, .inl (fun _ => 0))), (a.2.2.1, .inl (cI, 513, .inl (fun _ => 0))), (a.2.2.2, .inl (cZ, 513, .inl (fun _ => 0))), (q1, .inl (cI, 513, .inl (fun _ => 0)))]) (ref := "SecretBroker$Tokens") (ty := .array .int) C hin hX6_init_X6 tyX6 tyX6_ok nmX6 0 rfl rfl 6 (by decide) kX6_init_9 (fun _ h9 => h9) rfl rfl (by decide +kernel) rfl rfl (Nat.le_of_ble_eq_true rfl) dX6_init_10 rfl ?_
  refine z_aload_n C dX6_init_13 rfl 0 rfl ?_
  refine z_sipush (v := 513) C dX6_init_14 (by decide) ?_
  refine z_newarr (ty := .int) (N := 513) (a0 := (513, .inl (fun _ => 0))) C kX6_init_arrI rfl 0 rfl (fun _ _ h => h) (fun _ => rfl) (by decide) rfl (Nat.le_of_ble_eq_true rfl) (Nat.le_of_ble_eq_true rfl) (Nat.le_of_ble_eq_true rfl) dX6_init_17 (fun q2 => ?_)
  refine z_putF (ws' := [(h0, .inr (4, [.ref a.1, .ref a.2.1, .ref a.2.2.1, .ref a.2.2.2, .int 0, .int 0, .ref q1, .ref q2, .null])), (a.1, .inl (cI, 513, .inl (fun _ => 0))), (a.2.1, .inl (cI, 513, .inl (fun _ => 0))), (a.2.2.1, .inl (cI, 513, .inl (fun _ => 0))), (a.2.2.2, .inl (cZ, 513, .inl (fun _ => 0))), (q1, .inl (cI, 513, .inl (fun _ => 0))), (q2, .inl (cI, 513, .inl (fun _ => 0)))]) (ref := "SecretBroker$Tokens") (ty := .array .int) C hin hX6_init_X6 tyX6 tyX6_ok nmX6 0 rfl rfl 7 (by decide) kX6_init_15 (fun _ h9 => h9) rfl rfl (by decide +kernel) rfl rfl (Nat.le_of_ble_eq_true rfl) dX6_init_19 rfl ?_
  refine z_aload_n C dX6_init_22 rfl 0 rfl ?_
  refine z_sipush (v := 513) C dX6_init_23 (by decide) ?_
  refine z_newarr (ty := .int) (N := 513) (a0 := (513, .inl (fun _ => 0))) C kX6_init_arrI rfl 0 rfl (fun _ _ h => h) (fun _ => rfl) (by decide) rfl (Nat.le_of_ble_eq_true rfl) (Nat.le_of_ble_eq_true rfl) (Nat.le_of_ble_eq_true rfl) dX6_init_26 (fun q3 => ?_)
  refine z_putF (ws' := [(h0, .inr (4, [.ref a.1, .ref a.2.1, .ref a.2.2.1, .ref a.2.2.2, .int 0, .int 0, .ref q1, .ref q2, .ref q3])), (a.1, .inl (cI, 513, .inl (fun _ => 0))), (a.2.1, .inl (cI, 513, .inl (fun _ => 0))), (a.2.2.1, .inl (cI, 513, .inl (fun _ => 0))), (a.2.2.2, .inl (cZ, 513, .inl (fun _ => 0))), (q1, .inl (cI, 513, .inl (fun _ => 0))), (q2, .inl (cI, 513, .inl (fun _ => 0))), (q3, .inl (cI, 513, .inl (fun _ => 0)))]) (ref := "SecretBroker$Tokens") (ty := .array .int) C hin hX6_init_X6 tyX6 tyX6_ok nmX6 0 rfl rfl 8 (by decide) kX6_init_18 (fun _ h9 => h9) rfl rfl (by decide +kernel) rfl rfl (Nat.le_of_ble_eq_true rfl) dX6_init_28 rfl ?_
  refine z_ws (ws' := zwX6 cI cJ cZ (fun k => ([h0, a.1, a.2.1, a.2.2.1, a.2.2.2, q1, q2, q3] : List Nat).getD k 0) zP0) rfl ?_
  refine z_aload_n C dX6_init_31 rfl 0 rfl ?_
  refine z_iconst (v := 0) C dX6_init_32 (by decide) ?_
  refine z_iconst (v := (-1)) C dX6_init_33 (by decide) ?_
  refine z_iconst (v := 0) C dX6_init_34 (by decide) ?_
  refine z_callU (n := 3) (As := [.int 0, .int (-1), .int 0]) (ws' := zwX6 cI cJ cZ (fun k => ([h0, a.1, a.2.1, a.2.2.1, a.2.2.2, q1, q2, q3] : List Nat).getD k 0) zT1) C (c_X2_add_6 l D cI cJ cZ (fun k => ([h0, a.1, a.2.1, a.2.2.1, a.2.2.2, q1, q2, q3] : List Nat).getD k 0) zP0 0 (-1) 0 (zTv, zT1) zT1_ok) gX6_init_X2_add_u21X6 rfl rfl rfl rfl (by decide +kernel) ⟨(Nat.le_of_ble_eq_true rfl), (Nat.le_of_ble_eq_true rfl)⟩ ⟨(Nat.le_of_ble_eq_true rfl), (Nat.le_of_ble_eq_true rfl)⟩ 0 rfl rfl [] [] rfl rfl rfl rfl (Nat.le_of_ble_eq_true rfl) dX6_init_35 ?_
  refine z_pop C dX6_init_38 rfl ?_
  refine z_aload_n C dX6_init_39 rfl 0 rfl ?_
  refine z_iconst (v := 0) C dX6_init_40 (by decide) ?_
  refine z_iconst (v := (-1)) C dX6_init_41 (by decide) ?_
  refine z_iconst (v := 0) C dX6_init_42 (by decide) ?_
  refine z_iconst (v := (-1)) C dX6_init_43 (by decide) ?_
  refine z_callV (n := 4) (As := [.int 0, .int (-1), .int 0, .int (-1)]) (ws' := zwX6 cI cJ cZ (fun k => ([h0, a.1, a.2.1, a.2.2.1, a.2.2.2, q1, q2, q3] : List Nat).getD k 0) zT2) C (c_X6_describe l D cI cJ cZ (fun k => ([h0, a.1, a.2.1, a.2.2.1, a.2.2.2, q1, q2, q3] : List Nat).getD k 0) zT1 0 (-1) 0 (-1) zT2 zT2_ok) gX6_init_X6_describe rfl rfl rfl (by decide +kernel) ⟨(Nat.le_of_ble_eq_true rfl), (Nat.le_of_ble_eq_true rfl)⟩ ⟨(Nat.le_of_ble_eq_true rfl), (Nat.le_of_ble_eq_true rfl)⟩ 0 rfl rfl [] [] rfl rfl rfl rfl (Nat.le_of_ble_eq_true rfl) dX6_init_44 ?_
  refine z_iwiden (k := 7) (n := 3591) (Nat.le_of_ble_eq_true rfl) (Nat.le_of_ble_eq_true rfl) ?_
  exact z_iend C dX6_init_47 rfl (fun k => ([h0, a.1, a.2.1, a.2.2.1, a.2.2.2, q1, q2, q3] : List Nat).getD k 0) rfl rfl
theorem kX1_init_ini2 : Cond.initialized yX2_init.cls ∈ wsX1_init := by decide +kernel
theorem kX1_init_inst2 : Cond.instanceMethod yX2_init ∈ wsX1_init := by decide +kernel
theorem kX1_init_arrI : Cond.arrayClass (newarray.typeOf .int) ∈ wsX1_init := by decide +kernel
theorem kX1_init_9 : Cond.fieldLink RX1 9 "SecretBroker$Credentials" "owners" "[I" ∈ wsX1_init := by decide +kernel
theorem hX1_init_X1 : ∀ w ∈ wsX10, w ∈ wsX1_init := by decide +kernel
theorem kX1_init_15 : Cond.fieldLink RX1 15 "SecretBroker$Credentials" "paths" "[I" ∈ wsX1_init := by decide +kernel
set_option maxHeartbeats 4000000 in
set_option maxRecDepth 100000 in
theorem i_X1 (l : Launch) (D : va_G) (cI cJ cZ : ClassId) (h0 : Nat) : zI (α := Nat → Nat) l yX1_init wsX1_init 2 32 6 3078 D (zTy cI cJ cZ) h0 (.inr (1, [.null, .null, .null, .null, .int 0, .int 0, .null, .null])) [(RX1, 3, yX2_init, "SecretBroker")] (fun ad => ad 0 = h0) (fun ad => zwX1 cI cJ cZ ad zP0) := by
  refine z_ibody (cc := cX1_init) (own := RX1) (by decide +kernel) rfl rfl rfl (fun p e s m args below meth c A C hin hN => ?_)
  refine z_aload_n C dX1_init_0 rfl 0 rfl ?_
  refine z_callIN (maxL := 1) (host := "SecretBroker") C hN (i_X2_1 l D cI cJ cZ h0) (fun _ h => absurd h List.not_mem_nil) gX1_init_X2_init_n3 rfl kX1_init_ini2 List.mem_cons_self kX1_init_inst2 rfl (by decide +kernel) ⟨(Nat.le_of_ble_eq_true rfl), (Nat.le_of_ble_eq_true rfl)⟩ ⟨(Nat.le_of_ble_eq_true rfl), (Nat.le_of_ble_eq_true rfl)⟩ [] [] rfl (Nat.le_of_ble_eq_true rfl) dX1_init_1 (fun a _ => ?_)
  refine z_ws (ws' := [(h0, .inr (1, [.ref a.1, .ref a.2.1, .ref a.2.2.1, .ref a.2.2.2, .int 0, .int 0, .null, .null])), (a.1, .inl (cI, 513, .inl (fun _ => 0))), (a.2.1, .inl (cI, 513, .inl (fun _ => 0))), (a.2.2.1, .inl (cI, 513, .inl (fun _ => 0))), (a.2.2.2, .inl (cZ, 513, .inl (fun _ => 0)))]) rfl ?_
  refine z_aload_n C dX1_init_4 rfl 0 rfl ?_
  refine z_sipush (v := 513) C dX1_init_5 (by decide) ?_
  refine z_newarr (ty := .int) (N := 513) (a0 := (513, .inl (fun _ => 0))) C kX1_init_arrI rfl 0 rfl (fun _ _ h => h) (fun _ => rfl) (by decide) rfl (Nat.le_of_ble_eq_true rfl) (Nat.le_of_ble_eq_true rfl) (Nat.le_of_ble_eq_true rfl) dX1_init_8 (fun q1 => ?_)
  refine z_putF (ws' := [(h0, .inr (1, [.ref a.1, .ref a.2.1, .ref a.2.2.1, .ref a.2.2.2, .int 0, .int 0, .ref q1, .null])), (a.1, .inl (cI, 513, .inl (fun _ => 0))), (a.2.1, .inl (cI, 513, .inl (fun _ => 0))), (a.2.2.1, .inl (cI, 513, .inl (fun _ => 0))), (a.2.2.2, .inl (cZ, 513, .inl (fun _ => 0))), (q1, .inl (cI, 513, .inl (fun _ => 0)))]) (ref := "SecretBroker$Credentials") (ty := .array .int) C hin hX1_init_X1 tyX1 tyX1_ok nmX1 0 rfl rfl 6 (by decide) kX1_init_9 (fun _ h9 => h9) rfl rfl (by decide +kernel) rfl rfl (Nat.le_of_ble_eq_true rfl) dX1_init_10 rfl ?_
  refine z_aload_n C dX1_init_13 rfl 0 rfl ?_
  refine z_sipush (v := 513) C dX1_init_14 (by decide) ?_
  refine z_newarr (ty := .int) (N := 513) (a0 := (513, .inl (fun _ => 0))) C kX1_init_arrI rfl 0 rfl (fun _ _ h => h) (fun _ => rfl) (by decide) rfl (Nat.le_of_ble_eq_true rfl) (Nat.le_of_ble_eq_true rfl) (Nat.le_of_ble_eq_true rfl) dX1_init_17 (fun q2 => ?_)
  refine z_putF (ws' := [(h0, .inr (1, [.ref a.1, .ref a.2.1, .ref a.2.2.1, .ref a.2.2.2, .int 0, .int 0, .ref q1, .ref q2])), (a.1, .inl (cI, 513, .inl (fun _ => 0))), (a.2.1, .inl (cI, 513, .inl (fun _ => 0))), (a.2.2.1, .inl (cI, 513, .inl (fun _ => 0))), (a.2.2.2, .inl (cZ, 513, .inl (fun _ => 0))), (q1, .inl (cI, 513, .inl (fun _ => 0))), (q2, .inl (cI, 513, .inl (fun _ => 0)))]) (ref := "SecretBroker$Credentials") (ty := .array .int) C hin hX1_init_X1 tyX1 tyX1_ok nmX1 0 rfl rfl 7 (by decide) kX1_init_15 (fun _ h9 => h9) rfl rfl (by decide +kernel) rfl rfl (Nat.le_of_ble_eq_true rfl) dX1_init_19 rfl ?_
  refine z_iwiden (k := 6) (n := 3078) (Nat.le_of_ble_eq_true rfl) (Nat.le_of_ble_eq_true rfl) ?_
  exact z_iend C dX1_init_22 rfl (fun k => ([h0, a.1, a.2.1, a.2.2.1, a.2.2.2, q1, q2] : List Nat).getD k 0) rfl rfl
theorem kX7_init_1 : Cond.methodLink RX7 1 objectInit ∈ wsX7_init := by decide +kernel
theorem kX7_init_oi : Cond.instanceMethod objectInit ∈ wsX7_init := by decide +kernel
theorem kX7_init_oc : Cond.code objectInit ⟨#[0xb1]⟩ 1 none ∈ wsX7_init := by decide +kernel
theorem hX7_init_X5 : ∀ w ∈ wsX50, w ∈ wsX7_init := by decide +kernel
theorem kX7_init_cl7 : Cond.classLink RX7 7 RX5 ∈ wsX7_init := by decide +kernel
theorem kX7_init_in7 : Cond.instantiable RX5 5 ∈ wsX7_init := by decide +kernel
theorem kX7_init_iniX5 : Cond.initialized RX5 ∈ wsX7_init := by decide +kernel
theorem kX7_init_injX5 : Cond.initialized yX5_init.cls ∈ wsX7_init := by decide +kernel
theorem kX7_init_imX5 : Cond.instanceMethod yX5_init ∈ wsX7_init := by decide +kernel
theorem hX7_init_X7 : ∀ w ∈ wsX70, w ∈ wsX7_init := by decide +kernel
theorem kX7_init_10 : Cond.fieldLink RX7 10 "SecretBroker" "policyTable" "LSecretBroker$Policies;" ∈ wsX7_init := by decide +kernel
theorem hX7_init_X3 : ∀ w ∈ wsX30, w ∈ wsX7_init := by decide +kernel
theorem kX7_init_cl16 : Cond.classLink RX7 16 RX3 ∈ wsX7_init := by decide +kernel
theorem kX7_init_in16 : Cond.instantiable RX3 4 ∈ wsX7_init := by decide +kernel
theorem kX7_init_iniX3 : Cond.initialized RX3 ∈ wsX7_init := by decide +kernel
theorem kX7_init_injX3 : Cond.initialized yX3_init.cls ∈ wsX7_init := by decide +kernel
theorem kX7_init_imX3 : Cond.instanceMethod yX3_init ∈ wsX7_init := by decide +kernel
theorem kX7_init_19 : Cond.fieldLink RX7 19 "SecretBroker" "mountTable" "LSecretBroker$Mounts;" ∈ wsX7_init := by decide +kernel
theorem hX7_init_X6 : ∀ w ∈ wsX60, w ∈ wsX7_init := by decide +kernel
theorem kX7_init_cl23 : Cond.classLink RX7 23 RX6 ∈ wsX7_init := by decide +kernel
theorem kX7_init_in23 : Cond.instantiable RX6 9 ∈ wsX7_init := by decide +kernel
theorem kX7_init_iniX6 : Cond.initialized RX6 ∈ wsX7_init := by decide +kernel
theorem kX7_init_injX6 : Cond.initialized yX6_init.cls ∈ wsX7_init := by decide +kernel
theorem kX7_init_ml25 : Cond.methodLink RX7 25 yX6_init ∈ wsX7_init := by decide +kernel
theorem kX7_init_imX6 : Cond.instanceMethod yX6_init ∈ wsX7_init := by decide +kernel
theorem kX7_init_26 : Cond.fieldLink RX7 26 "SecretBroker" "tokenTable" "LSecretBroker$Tokens;" ∈ wsX7_init := by decide +kernel
theorem hX7_init_X1 : ∀ w ∈ wsX10, w ∈ wsX7_init := by decide +kernel
theorem kX7_init_cl30 : Cond.classLink RX7 30 RX1 ∈ wsX7_init := by decide +kernel
theorem kX7_init_in30 : Cond.instantiable RX1 8 ∈ wsX7_init := by decide +kernel
theorem kX7_init_iniX1 : Cond.initialized RX1 ∈ wsX7_init := by decide +kernel
theorem kX7_init_injX1 : Cond.initialized yX1_init.cls ∈ wsX7_init := by decide +kernel
theorem kX7_init_imX1 : Cond.instanceMethod yX1_init ∈ wsX7_init := by decide +kernel
theorem kX7_init_33 : Cond.fieldLink RX7 33 "SecretBroker" "credentialTable" "LSecretBroker$Credentials;" ∈ wsX7_init := by decide +kernel
theorem hX7_init_X0 : ∀ w ∈ wsX00, w ∈ wsX7_init := by decide +kernel
theorem kX7_init_cl37 : Cond.classLink RX7 37 RX0 ∈ wsX7_init := by decide +kernel
theorem kX7_init_in37 : Cond.instantiable RX0 5 ∈ wsX7_init := by decide +kernel
theorem kX7_init_iniX0 : Cond.initialized RX0 ∈ wsX7_init := by decide +kernel
theorem kX7_init_injX0 : Cond.initialized yX0_init.cls ∈ wsX7_init := by decide +kernel
theorem kX7_init_imX0 : Cond.instanceMethod yX0_init ∈ wsX7_init := by decide +kernel
theorem kX7_init_40 : Cond.fieldLink RX7 40 "SecretBroker" "audit" "LSecretBroker$Audit;" ∈ wsX7_init := by decide +kernel
theorem kX7_init_44 : Cond.fieldLink RX7 44 "SecretBroker" "now" "I" ∈ wsX7_init := by decide +kernel
set_option maxHeartbeats 4000000 in
set_option maxRecDepth 100000 in
theorem i_X7 (l : Launch) (D : va_G) (cI cJ cZ : ClassId) (h0 : Nat) : zI (α := (Nat → Nat) × (Nat → Nat) × (Nat → Nat) × (Nat → Nat) × (Nat → Nat)) l yX7_init wsX7_init 3 65 29 8922 D (zTy cI cJ cZ) h0 (.inr (5, [.null, .null, .null, .null, .null, .int 0])) [(RX7, 9, yX5_init, "SecretBroker"), (RX7, 18, yX3_init, "SecretBroker"), (RX7, 32, yX1_init, "SecretBroker"), (RX7, 39, yX0_init, "SecretBroker"), (RX6, 3, yX2_init, "SecretBroker"), (RX1, 3, yX2_init, "SecretBroker")] (fun ad => True) (fun ad => zwX7 cI cJ cZ h0 ad.1 ad.2.1 ad.2.2.1 ad.2.2.2.1 ad.2.2.2.2 zP0 zP0 zP0 zT2 zP0 zP0 zL0) := by
  refine z_ibody (cc := cX7_init) (own := RX7) (by decide +kernel) rfl rfl rfl (fun p e s m args below meth c A C hin hN => ?_)
  refine z_aload_n C dX7_init_0 rfl 0 rfl ?_
  refine z_objInit C kX7_init_1 kX7_init_oi kX7_init_oc (Nat.le_of_ble_eq_true rfl) (Nat.le_of_ble_eq_true rfl) dX7_init_1 ?_
  refine z_aload_n C dX7_init_4 rfl 0 rfl ?_
  refine z_new (ci := 3) (fs := [.null, .null, .null, .null, .int 0]) C hX7_init_X5 tyX5 tyX5_ok kX7_init_cl7 kX7_init_in7 kX7_init_iniX5 rfl (fun j hj => by rcases (show j = 0 ∨ j = 1 ∨ j = 2 ∨ j = 3 ∨ j = 4 by omega) with rfl | rfl | rfl | rfl | rfl <;> rfl) (Nat.le_of_ble_eq_true rfl) (Nat.le_of_ble_eq_true rfl) dX7_init_5 (fun q0 => ?_)
  refine z_dup C dX7_init_8 rfl ?_
  refine z_callIN (maxL := 1) (host := "SecretBroker") C hN (i_X5 l D cI cJ cZ q0) (fun _ h => absurd h List.not_mem_nil) gX7_init_X5_init_n9 rfl kX7_init_injX5 (by decide +kernel) kX7_init_imX5 rfl (by decide +kernel) ⟨(Nat.le_of_ble_eq_true rfl), (Nat.le_of_ble_eq_true rfl)⟩ ⟨(Nat.le_of_ble_eq_true rfl), (Nat.le_of_ble_eq_true rfl)⟩ [(h0, .inr (5, [.null, .null, .null, .null, .null, .int 0]))] [] rfl (Nat.le_of_ble_eq_true rfl) dX7_init_9 ?_
  intro a5 hok0
  subst hok0
  refine z_ws (ws' := ([(h0, .inr (5, [.null, .null, .null, .null, .null, .int 0]))] ++ zwX5 cI cJ cZ a5 zP0)) rfl ?_
  refine z_putF (ws' := ([(h0, .inr (5, [.ref (a5 0), .null, .null, .null, .null, .int 0]))] ++ zwX5 cI cJ cZ a5 zP0)) (ref := "SecretBroker") (ty := .object "SecretBroker$Policies") C hin hX7_init_X7 tyX7 tyX7_ok nmX7 0 rfl rfl 0 (by decide) kX7_init_10 (fun _ h9 => h9) rfl rfl (by decide +kernel) rfl rfl (Nat.le_of_ble_eq_true rfl) dX7_init_12 rfl ?_
  refine z_aload_n C dX7_init_15 rfl 0 rfl ?_
  refine z_new (ci := 2) (fs := [.null, .null, .null, .int 0]) C hX7_init_X3 tyX3 tyX3_ok kX7_init_cl16 kX7_init_in16 kX7_init_iniX3 rfl (fun j hj => by rcases (show j = 0 ∨ j = 1 ∨ j = 2 ∨ j = 3 by omega) with rfl | rfl | rfl | rfl <;> rfl) (Nat.le_of_ble_eq_true rfl) (Nat.le_of_ble_eq_true rfl) dX7_init_16 (fun q1 => ?_)
  refine z_dup C dX7_init_19 rfl ?_
  refine z_callIN (maxL := 1) (host := "SecretBroker") C hN (i_X3 l D cI cJ cZ q1) (fun _ h => absurd h List.not_mem_nil) gX7_init_X3_init_n18 rfl kX7_init_injX3 (by decide +kernel) kX7_init_imX3 rfl (by decide +kernel) ⟨(Nat.le_of_ble_eq_true rfl), (Nat.le_of_ble_eq_true rfl)⟩ ⟨(Nat.le_of_ble_eq_true rfl), (Nat.le_of_ble_eq_true rfl)⟩ ([(h0, .inr (5, [.ref (a5 0), .null, .null, .null, .null, .int 0]))] ++ zwX5 cI cJ cZ a5 zP0) [] rfl (Nat.le_of_ble_eq_true rfl) dX7_init_20 ?_
  intro a3 hok1
  subst hok1
  refine z_ws (ws' := ([(h0, .inr (5, [.ref (a5 0), .null, .null, .null, .null, .int 0]))] ++ (zwX5 cI cJ cZ a5 zP0 ++ zwX3 cI cJ cZ a3 zP0))) rfl ?_
  refine z_putF (ws' := ([(h0, .inr (5, [.ref (a5 0), .ref (a3 0), .null, .null, .null, .int 0]))] ++ (zwX5 cI cJ cZ a5 zP0 ++ zwX3 cI cJ cZ a3 zP0))) (ref := "SecretBroker") (ty := .object "SecretBroker$Mounts") C hin hX7_init_X7 tyX7 tyX7_ok nmX7 0 rfl rfl 1 (by decide) kX7_init_19 (fun _ h9 => h9) rfl rfl (by decide +kernel) rfl rfl (Nat.le_of_ble_eq_true rfl) dX7_init_23 rfl ?_
  refine z_aload_n C dX7_init_26 rfl 0 rfl ?_
  refine z_new (ci := 4) (fs := [.null, .null, .null, .null, .int 0, .int 0, .null, .null, .null]) C hX7_init_X6 tyX6 tyX6_ok kX7_init_cl23 kX7_init_in23 kX7_init_iniX6 rfl (fun j hj => by rcases (show j = 0 ∨ j = 1 ∨ j = 2 ∨ j = 3 ∨ j = 4 ∨ j = 5 ∨ j = 6 ∨ j = 7 ∨ j = 8 by omega) with rfl | rfl | rfl | rfl | rfl | rfl | rfl | rfl | rfl <;> rfl) (Nat.le_of_ble_eq_true rfl) (Nat.le_of_ble_eq_true rfl) dX7_init_27 (fun q2 => ?_)
  refine z_dup C dX7_init_30 rfl ?_
  refine z_callI (maxL := 1) C hN (i_X6 l D cI cJ cZ q2) (by decide +kernel) gX7_init_X6_init rfl kX7_init_injX6 kX7_init_ml25 kX7_init_imX6 rfl (by decide +kernel) ⟨(Nat.le_of_ble_eq_true rfl), (Nat.le_of_ble_eq_true rfl)⟩ ⟨(Nat.le_of_ble_eq_true rfl), (Nat.le_of_ble_eq_true rfl)⟩ ([(h0, .inr (5, [.ref (a5 0), .ref (a3 0), .null, .null, .null, .int 0]))] ++ (zwX5 cI cJ cZ a5 zP0 ++ zwX3 cI cJ cZ a3 zP0)) [] rfl (Nat.le_of_ble_eq_true rfl) dX7_init_31 ?_
  intro a6 hok2
  subst hok2
  refine z_ws (ws' := ([(h0, .inr (5, [.ref (a5 0), .ref (a3 0), .null, .null, .null, .int 0]))] ++ (zwX5 cI cJ cZ a5 zP0 ++ (zwX3 cI cJ cZ a3 zP0 ++ zwX6 cI cJ cZ a6 zT2)))) rfl ?_
  refine z_putF (ws' := ([(h0, .inr (5, [.ref (a5 0), .ref (a3 0), .ref (a6 0), .null, .null, .int 0]))] ++ (zwX5 cI cJ cZ a5 zP0 ++ (zwX3 cI cJ cZ a3 zP0 ++ zwX6 cI cJ cZ a6 zT2)))) (ref := "SecretBroker") (ty := .object "SecretBroker$Tokens") C hin hX7_init_X7 tyX7 tyX7_ok nmX7 0 rfl rfl 2 (by decide) kX7_init_26 (fun _ h9 => h9) rfl rfl (by decide +kernel) rfl rfl (Nat.le_of_ble_eq_true rfl) dX7_init_34 rfl ?_
  refine z_aload_n C dX7_init_37 rfl 0 rfl ?_
  refine z_new (ci := 1) (fs := [.null, .null, .null, .null, .int 0, .int 0, .null, .null]) C hX7_init_X1 tyX1 tyX1_ok kX7_init_cl30 kX7_init_in30 kX7_init_iniX1 rfl (fun j hj => by rcases (show j = 0 ∨ j = 1 ∨ j = 2 ∨ j = 3 ∨ j = 4 ∨ j = 5 ∨ j = 6 ∨ j = 7 by omega) with rfl | rfl | rfl | rfl | rfl | rfl | rfl | rfl <;> rfl) (Nat.le_of_ble_eq_true rfl) (Nat.le_of_ble_eq_true rfl) dX7_init_38 (fun q3 => ?_)
  refine z_dup C dX7_init_41 rfl ?_
  refine z_callIN (maxL := 1) (host := "SecretBroker") C hN (i_X1 l D cI cJ cZ q3) (by decide +kernel) gX7_init_X1_init_n32 rfl kX7_init_injX1 (by decide +kernel) kX7_init_imX1 rfl (by decide +kernel) ⟨(Nat.le_of_ble_eq_true rfl), (Nat.le_of_ble_eq_true rfl)⟩ ⟨(Nat.le_of_ble_eq_true rfl), (Nat.le_of_ble_eq_true rfl)⟩ ([(h0, .inr (5, [.ref (a5 0), .ref (a3 0), .ref (a6 0), .null, .null, .int 0]))] ++ (zwX5 cI cJ cZ a5 zP0 ++ (zwX3 cI cJ cZ a3 zP0 ++ zwX6 cI cJ cZ a6 zT2))) [] rfl (Nat.le_of_ble_eq_true rfl) dX7_init_42 ?_
  intro a1 hok3
  subst hok3
  refine z_ws (ws' := ([(h0, .inr (5, [.ref (a5 0), .ref (a3 0), .ref (a6 0), .null, .null, .int 0]))] ++ (zwX5 cI cJ cZ a5 zP0 ++ (zwX3 cI cJ cZ a3 zP0 ++ (zwX6 cI cJ cZ a6 zT2 ++ zwX1 cI cJ cZ a1 zP0))))) rfl ?_
  refine z_putF (ws' := ([(h0, .inr (5, [.ref (a5 0), .ref (a3 0), .ref (a6 0), .ref (a1 0), .null, .int 0]))] ++ (zwX5 cI cJ cZ a5 zP0 ++ (zwX3 cI cJ cZ a3 zP0 ++ (zwX6 cI cJ cZ a6 zT2 ++ zwX1 cI cJ cZ a1 zP0))))) (ref := "SecretBroker") (ty := .object "SecretBroker$Credentials") C hin hX7_init_X7 tyX7 tyX7_ok nmX7 0 rfl rfl 3 (by decide) kX7_init_33 (fun _ h9 => h9) rfl rfl (by decide +kernel) rfl rfl (Nat.le_of_ble_eq_true rfl) dX7_init_45 rfl ?_
  refine z_aload_n C dX7_init_48 rfl 0 rfl ?_
  refine z_new (ci := 0) (fs := [.null, .null, .null, .null, .int 0]) C hX7_init_X0 tyX0 tyX0_ok kX7_init_cl37 kX7_init_in37 kX7_init_iniX0 rfl (fun j hj => by rcases (show j = 0 ∨ j = 1 ∨ j = 2 ∨ j = 3 ∨ j = 4 by omega) with rfl | rfl | rfl | rfl | rfl <;> rfl) (Nat.le_of_ble_eq_true rfl) (Nat.le_of_ble_eq_true rfl) dX7_init_49 (fun q4 => ?_)
  refine z_dup C dX7_init_52 rfl ?_
  refine z_callIN (maxL := 1) (host := "SecretBroker") C hN (i_X0 l D cI cJ cZ q4) (fun _ h => absurd h List.not_mem_nil) gX7_init_X0_init_n39 rfl kX7_init_injX0 (by decide +kernel) kX7_init_imX0 rfl (by decide +kernel) ⟨(Nat.le_of_ble_eq_true rfl), (Nat.le_of_ble_eq_true rfl)⟩ ⟨(Nat.le_of_ble_eq_true rfl), (Nat.le_of_ble_eq_true rfl)⟩ ([(h0, .inr (5, [.ref (a5 0), .ref (a3 0), .ref (a6 0), .ref (a1 0), .null, .int 0]))] ++ (zwX5 cI cJ cZ a5 zP0 ++ (zwX3 cI cJ cZ a3 zP0 ++ (zwX6 cI cJ cZ a6 zT2 ++ zwX1 cI cJ cZ a1 zP0)))) [] rfl (Nat.le_of_ble_eq_true rfl) dX7_init_53 ?_
  intro a0 hok4
  subst hok4
  refine z_ws (ws' := ([(h0, .inr (5, [.ref (a5 0), .ref (a3 0), .ref (a6 0), .ref (a1 0), .null, .int 0]))] ++ (zwX5 cI cJ cZ a5 zP0 ++ (zwX3 cI cJ cZ a3 zP0 ++ (zwX6 cI cJ cZ a6 zT2 ++ (zwX1 cI cJ cZ a1 zP0 ++ zwX0 cI cJ cZ a0 zP0 zL0)))))) rfl ?_
  refine z_putF (ws' := ([(h0, .inr (5, [.ref (a5 0), .ref (a3 0), .ref (a6 0), .ref (a1 0), .ref (a0 0), .int 0]))] ++ (zwX5 cI cJ cZ a5 zP0 ++ (zwX3 cI cJ cZ a3 zP0 ++ (zwX6 cI cJ cZ a6 zT2 ++ (zwX1 cI cJ cZ a1 zP0 ++ zwX0 cI cJ cZ a0 zP0 zL0)))))) (ref := "SecretBroker") (ty := .object "SecretBroker$Audit") C hin hX7_init_X7 tyX7 tyX7_ok nmX7 0 rfl rfl 4 (by decide) kX7_init_40 (fun _ h9 => h9) rfl rfl (by decide +kernel) rfl rfl (Nat.le_of_ble_eq_true rfl) dX7_init_56 rfl ?_
  refine z_aload_n C dX7_init_59 rfl 0 rfl ?_
  refine z_iconst (v := 0) C dX7_init_60 (by decide) ?_
  refine z_put (ws' := ([(h0, .inr (5, [.ref (a5 0), .ref (a3 0), .ref (a6 0), .ref (a1 0), .ref (a0 0), .int 0]))] ++ (zwX5 cI cJ cZ a5 zP0 ++ (zwX3 cI cJ cZ a3 zP0 ++ (zwX6 cI cJ cZ a6 zT2 ++ (zwX1 cI cJ cZ a1 zP0 ++ zwX0 cI cJ cZ a0 zP0 zL0)))))) (ref := "SecretBroker") (ty := .int) C hX7_init_X7 tyX7 tyX7_ok nmX7 0 rfl rfl 5 (by decide) kX7_init_44 (fun _ h9 => h9) rfl (by decide +kernel) rfl rfl (Nat.le_of_ble_eq_true rfl) dX7_init_61 rfl rfl ?_
  refine z_iwiden (k := 29) (n := 8922) (Nat.le_of_ble_eq_true rfl) (Nat.le_of_ble_eq_true rfl) ?_
  exact z_iend C dX7_init_64 rfl (a5, a3, a6, a1, a0) trivial rfl
