theorem kX5_addRule_9 : Cond.fieldLink RX5 9 "SecretBroker$Policies" "ruleCounts" "[I" ∈ wsX5_addRule := by decide +kernel
theorem hX5_addRule_X5 : ∀ w ∈ wsX50, w ∈ wsX5_addRule := by decide +kernel
set_option maxHeartbeats 4000000 in
set_option maxRecDepth 100000 in
theorem c_X5_addRule (l : Launch) (D : va_G) (cI cJ cZ : ClassId) (a5 : Nat → Nat) (P : SS) (x1 : Int32) (u : Int32 × SS) (hF : f_X5_addRule P x1 = some u) : zM l yX5_addRule wsX5_addRule ({ frames := 1, cells := 0, slots := 0, locals := 21 }) D (zTy cI cJ cZ) [.ref (a5 0), .int x1] (zwX5 cI cJ cZ a5 P) (some (.int u.1)) (zwX5 cI cJ cZ a5 u.2) := by
  refine z_body (cc := cX5_addRule) (maxL := 2) (rty := (some .int)) (own := RX5) (lv := [(0, .ref (a5 0)), (1, .int x1)]) (by decide +kernel) rfl rfl (Nat.le_of_ble_eq_true rfl) rfl (fun p e s m args below meth c A C => ?_)
  refine z_aload_n C dX5_addRule_0 rfl 0 rfl ?_
  refine z_iload_n C dX5_addRule_1 rfl 1 rfl ?_
  obtain ⟨r1, er1, hF⟩ := zbd hF
  refine z_callV (n := 1) (As := [.int x1]) (ws' := (zwX5 cI cJ cZ a5 P)) C (c_X5_has l D cI cJ cZ a5 P x1 r1 er1) gX5_addRule_X5_has rfl rfl rfl (by decide +kernel) ⟨Nat.le_of_ble_eq_true rfl, Nat.le_of_ble_eq_true rfl⟩ ⟨Nat.zero_le _, Nat.zero_le _⟩ 0 rfl rfl [] [] rfl rfl rfl rfl (Nat.le_of_ble_eq_true rfl) dX5_addRule_2 ?_
  refine z_if_eq (tgt := 19) C dX5_addRule_5 (by decide) (fun c2 => ?_) (fun c2 => ?_)
  · have hF := zif hF c2
    refine z_iconst (v := (-1)) C dX5_addRule_19 (by decide) ?_
    have hu := Option.some.inj hF
    subst hu
    exact z_iret C dX5_addRule_20 rfl rfl
  · have hF := zelse hF c2
    refine z_aload_n C dX5_addRule_8 rfl 0 rfl ?_
    refine z_get (ref := "SecretBroker$Policies") (v := .ref (a5 1)) C hX5_addRule_X5 0 rfl rfl 0 (by decide) kX5_addRule_9 (fun _ h9 => h9) rfl dX5_addRule_9 ?_
    refine z_iload_n C dX5_addRule_12 rfl 1 rfl ?_
    obtain ⟨g3, hF⟩ := zix_some hF
    refine z_iald (v := ((P 0) x1.toNatClampNeg)) C g3 1 rfl rfl rfl dX5_addRule_13 ?_
    refine z_bipush (v := 6) C dX5_addRule_14 (by decide) ?_
    refine z_icmp_lt (tgt := 21) C dX5_addRule_16 (by decide) (fun c4 => ?_) (fun c4 => ?_)
    · have hF := zif hF c4
      refine z_aload_n C dX5_addRule_21 rfl 0 rfl ?_
      refine z_get (ref := "SecretBroker$Policies") (v := .ref (a5 1)) C hX5_addRule_X5 0 rfl rfl 0 (by decide) kX5_addRule_9 (fun _ h9 => h9) rfl dX5_addRule_22 ?_
      refine z_iload_n C dX5_addRule_25 rfl 1 rfl ?_
      refine z_dup2 C dX5_addRule_26 rfl rfl ?_
      obtain ⟨g5, hF⟩ := zix_some hF
      refine z_iald (v := ((P 0) x1.toNatClampNeg)) C g5 1 rfl rfl rfl dX5_addRule_27 ?_
      refine z_iconst (v := 1) C dX5_addRule_28 (by decide) ?_
      refine z_iadd C dX5_addRule_29 ?_
      obtain ⟨g6, hF⟩ := zix_some hF
      refine z_iast (ws' := (zwX5 cI cJ cZ a5 (za P 0 x1 (((P 0) x1.toNatClampNeg) + 1)))) C g6 1 rfl rfl dX5_addRule_30 (za_row P 0 x1 (((P 0) x1.toNatClampNeg) + 1)) (zr_X5_0 cI cJ cZ a5 P x1 (((P 0) x1.toNatClampNeg) + 1)) ?_
      refine z_iload_n C dX5_addRule_31 rfl 1 rfl ?_
      refine z_bipush (v := 6) C dX5_addRule_32 (by decide) ?_
      refine z_imul C dX5_addRule_34 ?_
      refine z_aload_n C dX5_addRule_35 rfl 0 rfl ?_
      refine z_get (ref := "SecretBroker$Policies") (v := .ref (a5 1)) C hX5_addRule_X5 0 rfl rfl 0 (by decide) kX5_addRule_9 (fun _ h9 => h9) rfl dX5_addRule_36 ?_
      refine z_iload_n C dX5_addRule_39 rfl 1 rfl ?_
      obtain ⟨g7, hF⟩ := zix_some hF
      refine z_iald (v := (((za P 0 x1 (((P 0) x1.toNatClampNeg) + 1)) 0) x1.toNatClampNeg)) C g7 1 rfl rfl rfl dX5_addRule_40 ?_
      refine z_iadd C dX5_addRule_41 ?_
      refine z_iconst (v := 1) C dX5_addRule_42 (by decide) ?_
      refine z_isub C dX5_addRule_43 ?_
      have hu := Option.some.inj hF
      subst hu
      exact z_iret C dX5_addRule_44 rfl rfl
    · have hF := zelse hF c4
      refine z_iconst (v := (-1)) C dX5_addRule_19 (by decide) ?_
      have hu := Option.some.inj hF
      subst hu
      exact z_iret C dX5_addRule_20 rfl rfl
theorem kX5_put_15 : Cond.fieldLink RX5 15 "SecretBroker$Policies" "patterns" "[I" ∈ wsX5_put := by decide +kernel
theorem kX5_put_18 : Cond.fieldLink RX5 18 "SecretBroker$Policies" "opens" "[Z" ∈ wsX5_put := by decide +kernel
theorem kX5_put_22 : Cond.fieldLink RX5 22 "SecretBroker$Policies" "sets" "[I" ∈ wsX5_put := by decide +kernel
theorem hX5_put_X5 : ∀ w ∈ wsX50, w ∈ wsX5_put := by decide +kernel
set_option maxHeartbeats 4000000 in
set_option maxRecDepth 100000 in
theorem c_X5_put (l : Launch) (D : va_G) (cI cJ cZ : ClassId) (a5 : Nat → Nat) (P : SS) (x1 : Int32) (x2 : Int32) (x3 : Int32) (x4 : Int32) (u : SS) (hF : f_X5_put P x1 x2 x3 x4 = some u) : zM l yX5_put wsX5_put ({ frames := 3, cells := 0, slots := 0, locals := 68 }) D (zTy cI cJ cZ) [.ref (a5 0), .int x1, .int x2, .int x3, .int x4] (zwX5 cI cJ cZ a5 P) none (zwX5 cI cJ cZ a5 u) := by
  refine z_body (cc := cX5_put) (maxL := 6) (rty := none) (own := RX5) (lv := [(0, .ref (a5 0)), (1, .int x1), (2, .int x2), (3, .int x3), (4, .int x4)]) (by decide +kernel) rfl rfl (Nat.le_of_ble_eq_true rfl) rfl (fun p e s m args below meth c A C => ?_)
  refine z_aload_n C dX5_put_0 rfl 0 rfl ?_
  refine z_iload_n C dX5_put_1 rfl 1 rfl ?_
  refine z_iload_n C dX5_put_2 rfl 2 rfl ?_
  refine z_iload_n C dX5_put_3 rfl 3 rfl ?_
  obtain ⟨r1, er1, hF⟩ := zbd hF
  refine z_callV (n := 3) (As := [.int x1, .int x2, .int x3]) (ws' := (zwX5 cI cJ cZ a5 P)) C (c_X5_find l D cI cJ cZ a5 P x1 x2 x3 r1 er1) gX5_put_X5_find rfl rfl rfl (by decide +kernel) ⟨Nat.le_of_ble_eq_true rfl, Nat.le_of_ble_eq_true rfl⟩ ⟨Nat.zero_le _, Nat.zero_le _⟩ 0 rfl rfl [] [] rfl rfl rfl rfl (Nat.le_of_ble_eq_true rfl) dX5_put_4 ?_
  refine z_istore (lv' := [(5, .int r1), (0, .ref (a5 0)), (1, .int x1), (2, .int x2), (3, .int x3), (4, .int x4)]) C dX5_put_7 (by decide) rfl ?_
  refine z_iload C dX5_put_9 0 rfl ?_
  refine z_iconst (v := (-1)) C dX5_put_11 (by decide) ?_
  refine z_icmp_ne (tgt := 22) C dX5_put_12 (by decide) (fun c2 => ?_) (fun c2 => ?_)
  · have hF := zelse hF c2
    refine z_iload C dX5_put_22 0 rfl ?_
    refine z_iconst (v := (-1)) C dX5_put_24 (by decide) ?_
    refine z_icmp_eq (tgt := 53) C dX5_put_25 (by decide) (fun c3 => ?_) (fun c3 => ?_)
    · have hF := zif hF c3
      have hu := Option.some.inj hF
      subst hu
      exact z_vret C dX5_put_53 rfl
    · have hF := zelse hF c3
      refine z_aload_n C dX5_put_28 rfl 1 rfl ?_
      refine z_get (ref := "SecretBroker$Policies") (v := .ref (a5 2)) C hX5_put_X5 0 rfl rfl 1 (by decide) kX5_put_15 (fun _ h9 => h9) rfl dX5_put_29 ?_
      refine z_iload C dX5_put_32 0 rfl ?_
      refine z_iload_n C dX5_put_34 rfl 3 rfl ?_
      obtain ⟨g4, hF⟩ := zix_some hF
      refine z_iast (ws' := (zwX5 cI cJ cZ a5 (za P 1 r1 x2))) C g4 2 rfl rfl dX5_put_35 (za_row P 1 r1 x2) (zr_X5_1 cI cJ cZ a5 P r1 x2) ?_
      refine z_aload_n C dX5_put_36 rfl 1 rfl ?_
      refine z_get (ref := "SecretBroker$Policies") (v := .ref (a5 3)) C hX5_put_X5 0 rfl rfl 2 (by decide) kX5_put_18 (fun _ h9 => h9) rfl dX5_put_37 ?_
      refine z_iload C dX5_put_40 0 rfl ?_
      refine z_iload_n C dX5_put_42 rfl 4 rfl ?_
      obtain ⟨g5, hF⟩ := zix_some hF
      refine z_zast (ws' := (zwX5 cI cJ cZ a5 (za (za P 1 r1 x2) 2 r1 (vp_nar .boolean x3)))) C g5 3 rfl rfl dX5_put_43 (za_row (za P 1 r1 x2) 2 r1 (vp_nar .boolean x3)) (zr_X5_2 cI cJ cZ a5 (za P 1 r1 x2) r1 (vp_nar .boolean x3)) ?_
      refine z_aload_n C dX5_put_44 rfl 1 rfl ?_
      refine z_get (ref := "SecretBroker$Policies") (v := .ref (a5 4)) C hX5_put_X5 0 rfl rfl 3 (by decide) kX5_put_22 (fun _ h9 => h9) rfl dX5_put_45 ?_
      refine z_iload C dX5_put_48 0 rfl ?_
      refine z_iload C dX5_put_50 5 rfl ?_
      obtain ⟨g6, hF⟩ := zix_some hF
      refine z_iast (ws' := (zwX5 cI cJ cZ a5 (za (za (za P 1 r1 x2) 2 r1 (vp_nar .boolean x3)) 3 r1 x4))) C g6 4 rfl rfl dX5_put_52 (za_row (za (za P 1 r1 x2) 2 r1 (vp_nar .boolean x3)) 3 r1 x4) (zr_X5_3 cI cJ cZ a5 (za (za P 1 r1 x2) 2 r1 (vp_nar .boolean x3)) r1 x4) ?_
      have hu := Option.some.inj hF
      subst hu
      exact z_vret C dX5_put_53 rfl
  · have hF := zif hF c2
    refine z_aload_n C dX5_put_15 rfl 1 rfl ?_
    refine z_iload_n C dX5_put_16 rfl 2 rfl ?_
    obtain ⟨r7, er7, hF⟩ := zbd hF
    refine z_callV (n := 1) (As := [.int x1]) (ws' := (zwX5 cI cJ cZ a5 r7.2)) C (c_X5_addRule l D cI cJ cZ a5 P x1 r7 er7) gX5_put_X5_addRule rfl rfl rfl (by decide +kernel) ⟨Nat.le_of_ble_eq_true rfl, Nat.le_of_ble_eq_true rfl⟩ ⟨Nat.zero_le _, Nat.zero_le _⟩ 0 rfl rfl [] [] rfl rfl rfl rfl (Nat.le_of_ble_eq_true rfl) dX5_put_17 ?_
    refine z_istore (lv' := [(5, .int r7.1), (0, .ref (a5 0)), (1, .int x1), (2, .int x2), (3, .int x3), (4, .int x4)]) C dX5_put_20 (by decide) rfl ?_
    refine z_iload C dX5_put_22 0 rfl ?_
    refine z_iconst (v := (-1)) C dX5_put_24 (by decide) ?_
    refine z_icmp_eq (tgt := 53) C dX5_put_25 (by decide) (fun c8 => ?_) (fun c8 => ?_)
    · have hF := zif hF c8
      have hu := Option.some.inj hF
      subst hu
      exact z_vret C dX5_put_53 rfl
    · have hF := zelse hF c8
      refine z_aload_n C dX5_put_28 rfl 1 rfl ?_
      refine z_get (ref := "SecretBroker$Policies") (v := .ref (a5 2)) C hX5_put_X5 0 rfl rfl 1 (by decide) kX5_put_15 (fun _ h9 => h9) rfl dX5_put_29 ?_
      refine z_iload C dX5_put_32 0 rfl ?_
      refine z_iload_n C dX5_put_34 rfl 3 rfl ?_
      obtain ⟨g9, hF⟩ := zix_some hF
      refine z_iast (ws' := (zwX5 cI cJ cZ a5 (za r7.2 1 r7.1 x2))) C g9 2 rfl rfl dX5_put_35 (za_row r7.2 1 r7.1 x2) (zr_X5_1 cI cJ cZ a5 r7.2 r7.1 x2) ?_
      refine z_aload_n C dX5_put_36 rfl 1 rfl ?_
      refine z_get (ref := "SecretBroker$Policies") (v := .ref (a5 3)) C hX5_put_X5 0 rfl rfl 2 (by decide) kX5_put_18 (fun _ h9 => h9) rfl dX5_put_37 ?_
      refine z_iload C dX5_put_40 0 rfl ?_
      refine z_iload_n C dX5_put_42 rfl 4 rfl ?_
      obtain ⟨g10, hF⟩ := zix_some hF
      refine z_zast (ws' := (zwX5 cI cJ cZ a5 (za (za r7.2 1 r7.1 x2) 2 r7.1 (vp_nar .boolean x3)))) C g10 3 rfl rfl dX5_put_43 (za_row (za r7.2 1 r7.1 x2) 2 r7.1 (vp_nar .boolean x3)) (zr_X5_2 cI cJ cZ a5 (za r7.2 1 r7.1 x2) r7.1 (vp_nar .boolean x3)) ?_
      refine z_aload_n C dX5_put_44 rfl 1 rfl ?_
      refine z_get (ref := "SecretBroker$Policies") (v := .ref (a5 4)) C hX5_put_X5 0 rfl rfl 3 (by decide) kX5_put_22 (fun _ h9 => h9) rfl dX5_put_45 ?_
      refine z_iload C dX5_put_48 0 rfl ?_
      refine z_iload C dX5_put_50 5 rfl ?_
      obtain ⟨g11, hF⟩ := zix_some hF
      refine z_iast (ws' := (zwX5 cI cJ cZ a5 (za (za (za r7.2 1 r7.1 x2) 2 r7.1 (vp_nar .boolean x3)) 3 r7.1 x4))) C g11 4 rfl rfl dX5_put_52 (za_row (za (za r7.2 1 r7.1 x2) 2 r7.1 (vp_nar .boolean x3)) 3 r7.1 x4) (zr_X5_3 cI cJ cZ a5 (za (za r7.2 1 r7.1 x2) 2 r7.1 (vp_nar .boolean x3)) r7.1 x4) ?_
      have hu := Option.some.inj hF
      subst hu
      exact z_vret C dX5_put_53 rfl
theorem kX5_goesAhead_15 : Cond.fieldLink RX5 15 "SecretBroker$Policies" "patterns" "[I" ∈ wsX5_goesAhead := by decide +kernel
theorem kX5_goesAhead_18 : Cond.fieldLink RX5 18 "SecretBroker$Policies" "opens" "[Z" ∈ wsX5_goesAhead := by decide +kernel
theorem hX5_goesAhead_X5 : ∀ w ∈ wsX50, w ∈ wsX5_goesAhead := by decide +kernel
set_option maxHeartbeats 4000000 in
set_option maxRecDepth 100000 in
theorem c_X5_goesAhead (l : Launch) (D : va_G) (cI cJ cZ : ClassId) (a5 : Nat → Nat) (P : SS) (x1 : Int32) (x2 : Int32) (u : Int32) (hF : f_X5_goesAhead P x1 x2 = some u) : zM l yX5_goesAhead wsX5_goesAhead ({ frames := 1, cells := 0, slots := 0, locals := 23 }) D (zTy cI cJ cZ) [.ref (a5 0), .int x1, .int x2] (zwX5 cI cJ cZ a5 P) (some (.int u)) (zwX5 cI cJ cZ a5 P) := by
  refine z_body (cc := cX5_goesAhead) (maxL := 4) (rty := (some .boolean)) (own := RX5) (lv := [(0, .ref (a5 0)), (1, .int x1), (2, .int x2)]) (by decide +kernel) rfl rfl (Nat.le_of_ble_eq_true rfl) rfl (fun p e s m args below meth c A C => ?_)
  refine z_aload_n C dX5_goesAhead_0 rfl 0 rfl ?_
  refine z_get (ref := "SecretBroker$Policies") (v := .ref (a5 2)) C hX5_goesAhead_X5 0 rfl rfl 1 (by decide) kX5_goesAhead_15 (fun _ h9 => h9) rfl dX5_goesAhead_1 ?_
  refine z_iload_n C dX5_goesAhead_4 rfl 1 rfl ?_
  obtain ⟨g1, hF⟩ := zix_some hF
  refine z_iald (v := ((P 1) x1.toNatClampNeg)) C g1 2 rfl rfl rfl dX5_goesAhead_5 ?_
  obtain ⟨r2, er2, hF⟩ := zbd hF
  refine z_callS (n := 1) (As := [.int ((P 1) x1.toNatClampNeg)]) C (c_X4_length l D cI cJ cZ ((P 1) x1.toNatClampNeg) r2 er2) gX5_goesAhead_X4_length rfl rfl rfl (by decide +kernel) ⟨Nat.le_of_ble_eq_true rfl, Nat.le_of_ble_eq_true rfl⟩ ⟨Nat.zero_le _, Nat.zero_le _⟩ rfl rfl (Nat.le_of_ble_eq_true rfl) dX5_goesAhead_6 ?_
  refine z_aload_n C dX5_goesAhead_9 rfl 0 rfl ?_
  refine z_get (ref := "SecretBroker$Policies") (v := .ref (a5 2)) C hX5_goesAhead_X5 0 rfl rfl 1 (by decide) kX5_goesAhead_15 (fun _ h9 => h9) rfl dX5_goesAhead_10 ?_
  refine z_iload_n C dX5_goesAhead_13 rfl 2 rfl ?_
  obtain ⟨g3, hF⟩ := zix_some hF
  refine z_iald (v := ((P 1) x2.toNatClampNeg)) C g3 2 rfl rfl rfl dX5_goesAhead_14 ?_
  obtain ⟨r4, er4, hF⟩ := zbd hF
  refine z_callS (n := 1) (As := [.int ((P 1) x2.toNatClampNeg)]) C (c_X4_length l D cI cJ cZ ((P 1) x2.toNatClampNeg) r4 er4) gX5_goesAhead_X4_length rfl rfl rfl (by decide +kernel) ⟨Nat.le_of_ble_eq_true rfl, Nat.le_of_ble_eq_true rfl⟩ ⟨Nat.zero_le _, Nat.zero_le _⟩ rfl rfl (Nat.le_of_ble_eq_true rfl) dX5_goesAhead_15 ?_
  refine z_isub C dX5_goesAhead_18 ?_
  refine z_istore_n (lv' := [(3, .int (r2 - r4)), (0, .ref (a5 0)), (1, .int x1), (2, .int x2)]) C dX5_goesAhead_19 rfl (by decide) rfl ?_
  refine z_iload_n C dX5_goesAhead_20 rfl 0 rfl ?_
  refine z_if_eq (tgt := 34) C dX5_goesAhead_21 (by decide) (fun c5 => ?_) (fun c5 => ?_)
  · have hF := zif hF c5
    refine z_aload_n C dX5_goesAhead_34 rfl 1 rfl ?_
    refine z_get (ref := "SecretBroker$Policies") (v := .ref (a5 3)) C hX5_goesAhead_X5 0 rfl rfl 2 (by decide) kX5_goesAhead_18 (fun _ h9 => h9) rfl dX5_goesAhead_35 ?_
    refine z_iload_n C dX5_goesAhead_38 rfl 2 rfl ?_
    obtain ⟨g6, hF⟩ := zix_some hF
    refine z_zald (v := ((P 2) x1.toNatClampNeg)) C g6 3 rfl rfl rfl dX5_goesAhead_39 ?_
    refine z_aload_n C dX5_goesAhead_40 rfl 1 rfl ?_
    refine z_get (ref := "SecretBroker$Policies") (v := .ref (a5 3)) C hX5_goesAhead_X5 0 rfl rfl 2 (by decide) kX5_goesAhead_18 (fun _ h9 => h9) rfl dX5_goesAhead_41 ?_
    refine z_iload_n C dX5_goesAhead_44 rfl 3 rfl ?_
    obtain ⟨g7, hF⟩ := zix_some hF
    refine z_zald (v := ((P 2) x2.toNatClampNeg)) C g7 3 rfl rfl rfl dX5_goesAhead_45 ?_
    refine z_icmp_eq (tgt := 56) C dX5_goesAhead_46 (by decide) (fun c8 => ?_) (fun c8 => ?_)
    · have hF := zif hF c8
      refine z_aload_n C dX5_goesAhead_56 rfl 1 rfl ?_
      refine z_get (ref := "SecretBroker$Policies") (v := .ref (a5 2)) C hX5_goesAhead_X5 0 rfl rfl 1 (by decide) kX5_goesAhead_15 (fun _ h9 => h9) rfl dX5_goesAhead_57 ?_
      refine z_iload_n C dX5_goesAhead_60 rfl 2 rfl ?_
      obtain ⟨g9, hF⟩ := zix_some hF
      refine z_iald (v := ((P 1) x1.toNatClampNeg)) C g9 2 rfl rfl rfl dX5_goesAhead_61 ?_
      refine z_aload_n C dX5_goesAhead_62 rfl 1 rfl ?_
      refine z_get (ref := "SecretBroker$Policies") (v := .ref (a5 2)) C hX5_goesAhead_X5 0 rfl rfl 1 (by decide) kX5_goesAhead_15 (fun _ h9 => h9) rfl dX5_goesAhead_63 ?_
      refine z_iload_n C dX5_goesAhead_66 rfl 3 rfl ?_
      obtain ⟨g10, hF⟩ := zix_some hF
      refine z_iald (v := ((P 1) x2.toNatClampNeg)) C g10 2 rfl rfl rfl dX5_goesAhead_67 ?_
      refine z_icmp_ge (tgt := 75) C dX5_goesAhead_68 (by decide) (fun c11 => ?_) (fun c11 => ?_)
      · have hF := zif hF c11
        refine z_iconst (v := 0) C dX5_goesAhead_75 (by decide) ?_
        have hu := Option.some.inj hF
        subst hu
        exact z_iret C dX5_goesAhead_76 rfl z_b0
      · have hF := zelse hF c11
        refine z_iconst (v := 1) C dX5_goesAhead_71 (by decide) ?_
        refine z_goto (tgt := 76) C dX5_goesAhead_72 (by decide) ?_
        have hu := Option.some.inj hF
        subst hu
        exact z_iret C dX5_goesAhead_76 rfl z_b1
    · have hF := zelse hF c8
      refine z_aload_n C dX5_goesAhead_49 rfl 1 rfl ?_
      refine z_get (ref := "SecretBroker$Policies") (v := .ref (a5 3)) C hX5_goesAhead_X5 0 rfl rfl 2 (by decide) kX5_goesAhead_18 (fun _ h9 => h9) rfl dX5_goesAhead_50 ?_
      refine z_iload_n C dX5_goesAhead_53 rfl 3 rfl ?_
      obtain ⟨g12, hF⟩ := zix_some hF
      refine z_zald (v := ((P 2) x2.toNatClampNeg)) C g12 3 rfl rfl rfl dX5_goesAhead_54 ?_
      obtain ⟨g13, hF⟩ := zbo_some hF
      have hu := Option.some.inj hF
      subst hu
      exact z_iret C dX5_goesAhead_55 rfl g13
  · have hF := zelse hF c5
    refine z_iload_n C dX5_goesAhead_24 rfl 0 rfl ?_
    refine z_if_le (tgt := 32) C dX5_goesAhead_25 (by decide) (fun c14 => ?_) (fun c14 => ?_)
    · have hF := zif hF c14
      refine z_iconst (v := 0) C dX5_goesAhead_32 (by decide) ?_
      have hu := Option.some.inj hF
      subst hu
      exact z_iret C dX5_goesAhead_33 rfl z_b0
    · have hF := zelse hF c14
      refine z_iconst (v := 1) C dX5_goesAhead_28 (by decide) ?_
      refine z_goto (tgt := 33) C dX5_goesAhead_29 (by decide) ?_
      have hu := Option.some.inj hF
      subst hu
      exact z_iret C dX5_goesAhead_33 rfl z_b1
theorem kX5_decided_22 : Cond.fieldLink RX5 22 "SecretBroker$Policies" "sets" "[I" ∈ wsX5_decided := by decide +kernel
theorem kX5_decided_15 : Cond.fieldLink RX5 15 "SecretBroker$Policies" "patterns" "[I" ∈ wsX5_decided := by decide +kernel
theorem kX5_decided_18 : Cond.fieldLink RX5 18 "SecretBroker$Policies" "opens" "[Z" ∈ wsX5_decided := by decide +kernel
theorem hX5_decided_X5 : ∀ w ∈ wsX50, w ∈ wsX5_decided := by decide +kernel
set_option maxHeartbeats 4000000 in
set_option maxRecDepth 100000 in
theorem c_X5_decided_j20 (l : Launch) (D : va_G) (cI cJ cZ : ClassId) (a5 : Nat → Nat) (P : SS) (u : Int32) {p : Program} {e : Env} {s : State} {m : MethodId} {args : Array Value} {below : List Frame} {meth : Method} {c : Code} {A : Nat → Prop} (C : zC p s m args meth c cX5_decided 7 (some .int) RX5 wsX5_decided D (zTy cI cJ cZ) A s.heap) : ∀ (n : Nat) (v2 : Int32) (v4 : Int32) (v5 : Int32) (v6 : Int32), f_X5_decided_20 P n v2 v4 v5 v6 = some u → zW p l e { frames := 2, cells := 0, slots := 0, locals := 50 } s m args below meth c 7 D A s.heap 0 0 (MQ below (zQ D (zTy cI cJ cZ) (some (.int u)) (zwX5 cI cJ cZ a5 P) A) args s 0 0 A) (zwX5 cI cJ cZ a5 P) [(0, .ref (a5 0)), (2, .int v2), (4, .int v4), (5, .int v5), (6, .int v6)] 20 [] := by
  intro n
  induction n with
  | zero => intro v2 v4 v5 v6 hF; exact absurd (show none = some u from hF) (fun q => nomatch q)
  | succ n ih =>
    intro v2 v4 v5 v6 hF
    refine z_iload C dX5_decided_20 4 rfl ?_
    refine z_iload C dX5_decided_22 2 rfl ?_
    refine z_icmp_ge (tgt := 75) C dX5_decided_24 (by decide) (fun c2 => ?_) (fun c2 => ?_)
    · have hF := zif hF c2
      refine z_iload C dX5_decided_75 3 rfl ?_
      refine z_iconst (v := (-1)) C dX5_decided_77 (by decide) ?_
      refine z_icmp_ne (tgt := 85) C dX5_decided_78 (by decide) (fun c3 => ?_) (fun c3 => ?_)
      · have hF := zelse hF c3
        refine z_aload_n C dX5_decided_85 rfl 0 rfl ?_
        refine z_get (ref := "SecretBroker$Policies") (v := .ref (a5 4)) C hX5_decided_X5 0 rfl rfl 3 (by decide) kX5_decided_22 (fun _ h9 => h9) rfl dX5_decided_86 ?_
        refine z_iload C dX5_decided_89 3 rfl ?_
        obtain ⟨g4, hF⟩ := zix_some hF
        refine z_iald (v := ((P 3) v5.toNatClampNeg)) C g4 4 rfl rfl rfl dX5_decided_91 ?_
        have hu := Option.some.inj hF
        subst hu
        exact z_iret C dX5_decided_92 rfl rfl
      · have hF := zif hF c3
        refine z_iconst (v := 0) C dX5_decided_81 (by decide) ?_
        refine z_goto (tgt := 92) C dX5_decided_82 (by decide) ?_
        have hu := Option.some.inj hF
        subst hu
        exact z_iret C dX5_decided_92 rfl rfl
    · have hF := zelse hF c2
      refine z_aload_n C dX5_decided_27 rfl 0 rfl ?_
      refine z_get (ref := "SecretBroker$Policies") (v := .ref (a5 2)) C hX5_decided_X5 0 rfl rfl 1 (by decide) kX5_decided_15 (fun _ h9 => h9) rfl dX5_decided_28 ?_
      refine z_iload C dX5_decided_31 4 rfl ?_
      obtain ⟨g5, hF⟩ := zix_some hF
      refine z_iald (v := ((P 1) v6.toNatClampNeg)) C g5 2 rfl rfl rfl dX5_decided_33 ?_
      refine z_aload_n C dX5_decided_34 rfl 0 rfl ?_
      refine z_get (ref := "SecretBroker$Policies") (v := .ref (a5 3)) C hX5_decided_X5 0 rfl rfl 2 (by decide) kX5_decided_18 (fun _ h9 => h9) rfl dX5_decided_35 ?_
      refine z_iload C dX5_decided_38 4 rfl ?_
      obtain ⟨g6, hF⟩ := zix_some hF
      refine z_zald (v := ((P 2) v6.toNatClampNeg)) C g6 3 rfl rfl rfl dX5_decided_40 ?_
      refine z_iload_n C dX5_decided_41 rfl 1 rfl ?_
      obtain ⟨r7, er7, hF⟩ := zbd hF
      refine z_callS (n := 3) (As := [.int ((P 1) v6.toNatClampNeg), .int ((P 2) v6.toNatClampNeg), .int v2]) C (c_X4_fits l D cI cJ cZ ((P 1) v6.toNatClampNeg) ((P 2) v6.toNatClampNeg) v2 r7 er7) gX5_decided_X4_fits rfl rfl rfl (by decide +kernel) ⟨Nat.le_of_ble_eq_true rfl, Nat.le_of_ble_eq_true rfl⟩ ⟨Nat.zero_le _, Nat.zero_le _⟩ rfl rfl (Nat.le_of_ble_eq_true rfl) dX5_decided_42 ?_
      refine z_if_eq (tgt := 69) C dX5_decided_45 (by decide) (fun c8 => ?_) (fun c8 => ?_)
      · have hF := zif hF c8
        refine z_iinc (v := (v6 + 1)) (lv' := [(6, .int (v6 + 1)), (0, .ref (a5 0)), (2, .int v2), (4, .int v4), (5, .int v5)]) C dX5_decided_69 4 rfl rfl (by decide) rfl ?_
        refine z_goto (tgt := 20) C dX5_decided_72 (by decide) ?_
        exact z_sub C [1, 2, 3, 4, 0] rfl (ih v2 v4 v5 (v6 + 1) hF)
      · have hF := zelse hF c8
        refine z_iload C dX5_decided_48 3 rfl ?_
        refine z_iconst (v := (-1)) C dX5_decided_50 (by decide) ?_
        refine z_icmp_eq (tgt := 65) C dX5_decided_51 (by decide) (fun c9 => ?_) (fun c9 => ?_)
        · have hF := zif hF c9
          refine z_iload C dX5_decided_65 4 rfl ?_
          refine z_istore (lv' := [(5, .int v6), (0, .ref (a5 0)), (2, .int v2), (4, .int v4), (6, .int v6)]) C dX5_decided_67 (by decide) rfl ?_
          refine z_iinc (v := (v6 + 1)) (lv' := [(6, .int (v6 + 1)), (5, .int v6), (0, .ref (a5 0)), (2, .int v2), (4, .int v4)]) C dX5_decided_69 4 rfl rfl (by decide) rfl ?_
          refine z_goto (tgt := 20) C dX5_decided_72 (by decide) ?_
          exact z_sub C [2, 3, 4, 1, 0] rfl (ih v2 v4 v6 (v6 + 1) hF)
        · have hF := zelse hF c9
          refine z_aload_n C dX5_decided_54 rfl 0 rfl ?_
          refine z_iload C dX5_decided_55 4 rfl ?_
          refine z_iload C dX5_decided_57 3 rfl ?_
          obtain ⟨r10, er10, hF⟩ := zbd hF
          refine z_callV (n := 2) (As := [.int v6, .int v5]) (ws' := (zwX5 cI cJ cZ a5 P)) C (c_X5_goesAhead l D cI cJ cZ a5 P v6 v5 r10 er10) gX5_decided_X5_goesAhead rfl rfl rfl (by decide +kernel) ⟨Nat.le_of_ble_eq_true rfl, Nat.le_of_ble_eq_true rfl⟩ ⟨Nat.zero_le _, Nat.zero_le _⟩ 0 rfl rfl [] [] rfl rfl rfl rfl (Nat.le_of_ble_eq_true rfl) dX5_decided_59 ?_
          refine z_if_eq (tgt := 69) C dX5_decided_62 (by decide) (fun c11 => ?_) (fun c11 => ?_)
          · have hF := zif hF c11
            refine z_iinc (v := (v6 + 1)) (lv' := [(6, .int (v6 + 1)), (0, .ref (a5 0)), (2, .int v2), (4, .int v4), (5, .int v5)]) C dX5_decided_69 4 rfl rfl (by decide) rfl ?_
            refine z_goto (tgt := 20) C dX5_decided_72 (by decide) ?_
            exact z_sub C [1, 2, 3, 4, 0] rfl (ih v2 v4 v5 (v6 + 1) hF)
          · have hF := zelse hF c11
            refine z_iload C dX5_decided_65 4 rfl ?_
            refine z_istore (lv' := [(5, .int v6), (0, .ref (a5 0)), (2, .int v2), (4, .int v4), (6, .int v6)]) C dX5_decided_67 (by decide) rfl ?_
            refine z_iinc (v := (v6 + 1)) (lv' := [(6, .int (v6 + 1)), (5, .int v6), (0, .ref (a5 0)), (2, .int v2), (4, .int v4)]) C dX5_decided_69 4 rfl rfl (by decide) rfl ?_
            refine z_goto (tgt := 20) C dX5_decided_72 (by decide) ?_
            exact z_sub C [2, 3, 4, 1, 0] rfl (ih v2 v4 v6 (v6 + 1) hF)
set_option maxHeartbeats 4000000 in
set_option maxRecDepth 100000 in
theorem c_X5_decided (l : Launch) (D : va_G) (cI cJ cZ : ClassId) (a5 : Nat → Nat) (P : SS) (x1 : Int32) (x2 : Int32) (u : Int32) (hF : f_X5_decided P x1 x2 = some u) : zM l yX5_decided wsX5_decided ({ frames := 2, cells := 0, slots := 0, locals := 50 }) D (zTy cI cJ cZ) [.ref (a5 0), .int x1, .int x2] (zwX5 cI cJ cZ a5 P) (some (.int u)) (zwX5 cI cJ cZ a5 P) := by
  refine z_body (cc := cX5_decided) (maxL := 7) (rty := (some .int)) (own := RX5) (lv := [(0, .ref (a5 0)), (1, .int x1), (2, .int x2)]) (by decide +kernel) rfl rfl (Nat.le_of_ble_eq_true rfl) rfl (fun p e s m args below meth c A C => ?_)
  refine z_iload_n C dX5_decided_0 rfl 1 rfl ?_
  refine z_bipush (v := 6) C dX5_decided_1 (by decide) ?_
  refine z_imul C dX5_decided_3 ?_
  refine z_istore_n (lv' := [(3, .int (x1 * 6)), (0, .ref (a5 0)), (1, .int x1), (2, .int x2)]) C dX5_decided_4 rfl (by decide) rfl ?_
  refine z_iload_n C dX5_decided_5 rfl 0 rfl ?_
  refine z_aload_n C dX5_decided_6 rfl 1 rfl ?_
  refine z_iload_n C dX5_decided_7 rfl 2 rfl ?_
  obtain ⟨r1, er1, hF⟩ := zbd hF
  refine z_callV (n := 1) (As := [.int x1]) (ws' := (zwX5 cI cJ cZ a5 P)) C (c_X5_rulesOf l D cI cJ cZ a5 P x1 r1 er1) gX5_decided_X5_rulesOf rfl rfl rfl (by decide +kernel) ⟨Nat.le_of_ble_eq_true rfl, Nat.le_of_ble_eq_true rfl⟩ ⟨Nat.zero_le _, Nat.zero_le _⟩ 0 rfl rfl [] [] rfl rfl rfl rfl (Nat.le_of_ble_eq_true rfl) dX5_decided_8 ?_
  refine z_iadd C dX5_decided_11 ?_
  refine z_istore (lv' := [(4, .int ((x1 * 6) + r1)), (3, .int (x1 * 6)), (0, .ref (a5 0)), (1, .int x1), (2, .int x2)]) C dX5_decided_12 (by decide) rfl ?_
  refine z_iconst (v := (-1)) C dX5_decided_14 (by decide) ?_
  refine z_istore (lv' := [(5, .int (-1)), (4, .int ((x1 * 6) + r1)), (3, .int (x1 * 6)), (0, .ref (a5 0)), (1, .int x1), (2, .int x2)]) C dX5_decided_15 (by decide) rfl ?_
  refine z_iload_n C dX5_decided_17 rfl 2 rfl ?_
  refine z_istore (lv' := [(6, .int (x1 * 6)), (5, .int (-1)), (4, .int ((x1 * 6) + r1)), (3, .int (x1 * 6)), (0, .ref (a5 0)), (1, .int x1), (2, .int x2)]) C dX5_decided_18 (by decide) rfl ?_
  exact z_sub C [4, 6, 2, 1, 0] rfl (c_X5_decided_j20 l D cI cJ cZ a5 P u C 600 x2 ((x1 * 6) + r1) (-1) (x1 * 6) hF)
theorem kX5_together_25 : Cond.fieldLink RX5 25 "SecretBroker$Policies" "count" "I" ∈ wsX5_together := by decide +kernel
theorem hX5_together_X5 : ∀ w ∈ wsX50, w ∈ wsX5_together := by decide +kernel
set_option maxHeartbeats 4000000 in
set_option maxRecDepth 100000 in
theorem c_X5_together_j5 (l : Launch) (D : va_G) (cI cJ cZ : ClassId) (a5 : Nat → Nat) (P : SS) (u : Int32) {p : Program} {e : Env} {s : State} {m : MethodId} {args : Array Value} {below : List Frame} {meth : Method} {c : Code} {A : Nat → Prop} (C : zC p s m args meth c cX5_together 5 (some .int) RX5 wsX5_together D (zTy cI cJ cZ) A s.heap) : ∀ (n : Nat) (v1 : Int32) (v2 : Int32) (v3 : Int32) (v4 : Int32), f_X5_together_5 P n v1 v2 v3 v4 = some u → zW p l e { frames := 3, cells := 0, slots := 0, locals := 76 } s m args below meth c 5 D A s.heap 0 0 (MQ below (zQ D (zTy cI cJ cZ) (some (.int u)) (zwX5 cI cJ cZ a5 P) A) args s 0 0 A) (zwX5 cI cJ cZ a5 P) [(0, .ref (a5 0)), (1, .int v1), (2, .int v2), (3, .int v3), (4, .int v4)] 5 [] := by
  intro n
  induction n with
  | zero => intro v1 v2 v3 v4 hF; exact absurd (show none = some u from hF) (fun q => nomatch q)
  | succ n ih =>
    intro v1 v2 v3 v4 hF
    refine z_iload C dX5_together_5 4 rfl ?_
    refine z_aload_n C dX5_together_7 rfl 0 rfl ?_
    refine z_get (ref := "SecretBroker$Policies") (v := .int (P 4 0)) C hX5_together_X5 0 rfl rfl 4 (by decide) kX5_together_25 (fun _ h9 => h9) rfl dX5_together_8 ?_
    refine z_icmp_ge (tgt := 39) C dX5_together_11 (by decide) (fun c1 => ?_) (fun c1 => ?_)
    · have hF := zif hF c1
      refine z_iload_n C dX5_together_39 rfl 3 rfl ?_
      have hu := Option.some.inj hF
      subst hu
      exact z_iret C dX5_together_40 rfl rfl
    · have hF := zelse hF c1
      refine z_iload_n C dX5_together_14 rfl 1 rfl ?_
      refine z_iload C dX5_together_15 4 rfl ?_
      refine z_ishr C dX5_together_17 ?_
      refine z_iconst (v := 1) C dX5_together_18 (by decide) ?_
      refine z_iand C dX5_together_19 ?_
      refine z_if_eq (tgt := 33) C dX5_together_20 (by decide) (fun c2 => ?_) (fun c2 => ?_)
      · have hF := zif hF c2
        refine z_iinc (v := (v4 + 1)) (lv' := [(4, .int (v4 + 1)), (0, .ref (a5 0)), (1, .int v1), (2, .int v2), (3, .int v3)]) C dX5_together_33 4 rfl rfl (by decide) rfl ?_
        refine z_goto (tgt := 5) C dX5_together_36 (by decide) ?_
        exact z_sub C [1, 2, 3, 4, 0] rfl (ih v1 v2 v3 (v4 + 1) hF)
      · have hF := zelse hF c2
        refine z_iload_n C dX5_together_23 rfl 3 rfl ?_
        refine z_aload_n C dX5_together_24 rfl 0 rfl ?_
        refine z_iload C dX5_together_25 4 rfl ?_
        refine z_iload_n C dX5_together_27 rfl 2 rfl ?_
        obtain ⟨r3, er3, hF⟩ := zbd hF
        refine z_callV (n := 2) (As := [.int v4, .int v2]) (ws' := (zwX5 cI cJ cZ a5 P)) C (c_X5_decided l D cI cJ cZ a5 P v4 v2 r3 er3) gX5_together_X5_decided rfl rfl rfl (by decide +kernel) ⟨Nat.le_of_ble_eq_true rfl, Nat.le_of_ble_eq_true rfl⟩ ⟨Nat.zero_le _, Nat.zero_le _⟩ 0 rfl rfl [] [] rfl rfl rfl rfl (Nat.le_of_ble_eq_true rfl) dX5_together_28 ?_
        refine z_ior C dX5_together_31 ?_
        refine z_istore_n (lv' := [(3, .int (v3 ||| r3)), (0, .ref (a5 0)), (1, .int v1), (2, .int v2), (4, .int v4)]) C dX5_together_32 rfl (by decide) rfl ?_
        refine z_iinc (v := (v4 + 1)) (lv' := [(4, .int (v4 + 1)), (3, .int (v3 ||| r3)), (0, .ref (a5 0)), (1, .int v1), (2, .int v2)]) C dX5_together_33 4 rfl rfl (by decide) rfl ?_
        refine z_goto (tgt := 5) C dX5_together_36 (by decide) ?_
        exact z_sub C [2, 3, 4, 1, 0] rfl (ih v1 v2 (v3 ||| r3) (v4 + 1) hF)
set_option maxHeartbeats 4000000 in
set_option maxRecDepth 100000 in
theorem c_X5_together (l : Launch) (D : va_G) (cI cJ cZ : ClassId) (a5 : Nat → Nat) (P : SS) (x1 : Int32) (x2 : Int32) (u : Int32) (hF : f_X5_together P x1 x2 = some u) : zM l yX5_together wsX5_together ({ frames := 3, cells := 0, slots := 0, locals := 76 }) D (zTy cI cJ cZ) [.ref (a5 0), .int x1, .int x2] (zwX5 cI cJ cZ a5 P) (some (.int u)) (zwX5 cI cJ cZ a5 P) := by
  refine z_body (cc := cX5_together) (maxL := 5) (rty := (some .int)) (own := RX5) (lv := [(0, .ref (a5 0)), (1, .int x1), (2, .int x2)]) (by decide +kernel) rfl rfl (Nat.le_of_ble_eq_true rfl) rfl (fun p e s m args below meth c A C => ?_)
  refine z_iconst (v := 0) C dX5_together_0 (by decide) ?_
  refine z_istore_n (lv' := [(3, .int 0), (0, .ref (a5 0)), (1, .int x1), (2, .int x2)]) C dX5_together_1 rfl (by decide) rfl ?_
  refine z_iconst (v := 0) C dX5_together_2 (by decide) ?_
  refine z_istore (lv' := [(4, .int 0), (3, .int 0), (0, .ref (a5 0)), (1, .int x1), (2, .int x2)]) C dX5_together_3 (by decide) rfl ?_
  exact z_sub C [2, 3, 4, 1, 0] rfl (c_X5_together_j5 l D cI cJ cZ a5 P u C 600 x1 x2 0 0 hF)
theorem kX6_describe_9 : Cond.fieldLink RX6 9 "SecretBroker$Tokens" "parents" "[I" ∈ wsX6_describe := by decide +kernel
theorem kX6_describe_15 : Cond.fieldLink RX6 15 "SecretBroker$Tokens" "policySets" "[I" ∈ wsX6_describe := by decide +kernel
theorem kX6_describe_18 : Cond.fieldLink RX6 18 "SecretBroker$Tokens" "uses" "[I" ∈ wsX6_describe := by decide +kernel
theorem hX6_describe_X6 : ∀ w ∈ wsX60, w ∈ wsX6_describe := by decide +kernel
set_option maxHeartbeats 4000000 in
set_option maxRecDepth 100000 in
theorem c_X6_describe (l : Launch) (D : va_G) (cI cJ cZ : ClassId) (a6 : Nat → Nat) (T : SS) (x1 : Int32) (x2 : Int32) (x3 : Int32) (x4 : Int32) (u : SS) (hF : f_X6_describe T x1 x2 x3 x4 = some u) : zM l yX6_describe wsX6_describe ({ frames := 1, cells := 0, slots := 0, locals := 21 }) D (zTy cI cJ cZ) [.ref (a6 0), .int x1, .int x2, .int x3, .int x4] (zwX6 cI cJ cZ a6 T) none (zwX6 cI cJ cZ a6 u) := by
  refine z_body (cc := cX6_describe) (maxL := 5) (rty := none) (own := RX6) (lv := [(0, .ref (a6 0)), (1, .int x1), (2, .int x2), (3, .int x3), (4, .int x4)]) (by decide +kernel) rfl rfl (Nat.le_of_ble_eq_true rfl) rfl (fun p e s m args below meth c A C => ?_)
  refine z_aload_n C dX6_describe_0 rfl 0 rfl ?_
  refine z_iload_n C dX6_describe_1 rfl 1 rfl ?_
  obtain ⟨r1, er1, hF⟩ := zbd hF
  refine z_callU (n := 1) (As := [.int x1]) (ws' := (zwX6 cI cJ cZ a6 T)) C (c_X2_has_6 l D cI cJ cZ a6 T x1 r1 er1) gX6_describe_X2_has_u29X6 rfl rfl rfl rfl (by decide +kernel) ⟨Nat.le_of_ble_eq_true rfl, Nat.le_of_ble_eq_true rfl⟩ ⟨Nat.zero_le _, Nat.zero_le _⟩ 0 rfl rfl [] [] rfl rfl rfl rfl (Nat.le_of_ble_eq_true rfl) dX6_describe_2 ?_
  refine z_if_eq (tgt := 30) C dX6_describe_5 (by decide) (fun c2 => ?_) (fun c2 => ?_)
  · have hF := zif hF c2
    have hu := Option.some.inj hF
    subst hu
    exact z_vret C dX6_describe_30 rfl
  · have hF := zelse hF c2
    refine z_aload_n C dX6_describe_8 rfl 0 rfl ?_
    refine z_get (ref := "SecretBroker$Tokens") (v := .ref (a6 5)) C hX6_describe_X6 0 rfl rfl 6 (by decide) kX6_describe_9 (fun _ h9 => h9) rfl dX6_describe_9 ?_
    refine z_iload_n C dX6_describe_12 rfl 1 rfl ?_
    refine z_iload_n C dX6_describe_13 rfl 2 rfl ?_
    obtain ⟨g3, hF⟩ := zix_some hF
    refine z_iast (ws' := (zwX6 cI cJ cZ a6 (za T 6 x1 x2))) C g3 5 rfl rfl dX6_describe_14 (za_row T 6 x1 x2) (zr_X6_6 cI cJ cZ a6 T x1 x2) ?_
    refine z_aload_n C dX6_describe_15 rfl 0 rfl ?_
    refine z_get (ref := "SecretBroker$Tokens") (v := .ref (a6 6)) C hX6_describe_X6 0 rfl rfl 7 (by decide) kX6_describe_15 (fun _ h9 => h9) rfl dX6_describe_16 ?_
    refine z_iload_n C dX6_describe_19 rfl 1 rfl ?_
    refine z_iload_n C dX6_describe_20 rfl 3 rfl ?_
    obtain ⟨g4, hF⟩ := zix_some hF
    refine z_iast (ws' := (zwX6 cI cJ cZ a6 (za (za T 6 x1 x2) 7 x1 x3))) C g4 6 rfl rfl dX6_describe_21 (za_row (za T 6 x1 x2) 7 x1 x3) (zr_X6_7 cI cJ cZ a6 (za T 6 x1 x2) x1 x3) ?_
    refine z_aload_n C dX6_describe_22 rfl 0 rfl ?_
    refine z_get (ref := "SecretBroker$Tokens") (v := .ref (a6 7)) C hX6_describe_X6 0 rfl rfl 8 (by decide) kX6_describe_18 (fun _ h9 => h9) rfl dX6_describe_23 ?_
    refine z_iload_n C dX6_describe_26 rfl 1 rfl ?_
    refine z_iload C dX6_describe_27 4 rfl ?_
    obtain ⟨g5, hF⟩ := zix_some hF
    refine z_iast (ws' := (zwX6 cI cJ cZ a6 (za (za (za T 6 x1 x2) 7 x1 x3) 8 x1 x4))) C g5 7 rfl rfl dX6_describe_29 (za_row (za (za T 6 x1 x2) 7 x1 x3) 8 x1 x4) (zr_X6_8 cI cJ cZ a6 (za (za T 6 x1 x2) 7 x1 x3) x1 x4) ?_
    have hu := Option.some.inj hF
    subst hu
    exact z_vret C dX6_describe_30 rfl
theorem kX6_parentAt_9 : Cond.fieldLink RX6 9 "SecretBroker$Tokens" "parents" "[I" ∈ wsX6_parentAt := by decide +kernel
theorem hX6_parentAt_X6 : ∀ w ∈ wsX60, w ∈ wsX6_parentAt := by decide +kernel
set_option maxHeartbeats 4000000 in
set_option maxRecDepth 100000 in
theorem c_X6_parentAt (l : Launch) (D : va_G) (cI cJ cZ : ClassId) (a6 : Nat → Nat) (T : SS) (x1 : Int32) (u : Int32) (hF : f_X6_parentAt T x1 = some u) : zM l yX6_parentAt wsX6_parentAt ({ frames := 1, cells := 0, slots := 0, locals := 21 }) D (zTy cI cJ cZ) [.ref (a6 0), .int x1] (zwX6 cI cJ cZ a6 T) (some (.int u)) (zwX6 cI cJ cZ a6 T) := by
  refine z_body (cc := cX6_parentAt) (maxL := 2) (rty := (some .int)) (own := RX6) (lv := [(0, .ref (a6 0)), (1, .int x1)]) (by decide +kernel) rfl rfl (Nat.le_of_ble_eq_true rfl) rfl (fun p e s m args below meth c A C => ?_)
  refine z_aload_n C dX6_parentAt_0 rfl 0 rfl ?_
  refine z_iload_n C dX6_parentAt_1 rfl 1 rfl ?_
  obtain ⟨r1, er1, hF⟩ := zbd hF
  refine z_callU (n := 1) (As := [.int x1]) (ws' := (zwX6 cI cJ cZ a6 T)) C (c_X2_has_6 l D cI cJ cZ a6 T x1 r1 er1) gX6_parentAt_X2_has_u29X6 rfl rfl rfl rfl (by decide +kernel) ⟨Nat.le_of_ble_eq_true rfl, Nat.le_of_ble_eq_true rfl⟩ ⟨Nat.zero_le _, Nat.zero_le _⟩ 0 rfl rfl [] [] rfl rfl rfl rfl (Nat.le_of_ble_eq_true rfl) dX6_parentAt_2 ?_
  refine z_if_eq (tgt := 17) C dX6_parentAt_5 (by decide) (fun c2 => ?_) (fun c2 => ?_)
  · have hF := zif hF c2
    refine z_iconst (v := (-1)) C dX6_parentAt_17 (by decide) ?_
    have hu := Option.some.inj hF
    subst hu
    exact z_iret C dX6_parentAt_18 rfl rfl
  · have hF := zelse hF c2
    refine z_aload_n C dX6_parentAt_8 rfl 0 rfl ?_
    refine z_get (ref := "SecretBroker$Tokens") (v := .ref (a6 5)) C hX6_parentAt_X6 0 rfl rfl 6 (by decide) kX6_parentAt_9 (fun _ h9 => h9) rfl dX6_parentAt_9 ?_
    refine z_iload_n C dX6_parentAt_12 rfl 1 rfl ?_
    obtain ⟨g3, hF⟩ := zix_some hF
    refine z_iald (v := ((T 6) x1.toNatClampNeg)) C g3 5 rfl rfl rfl dX6_parentAt_13 ?_
    refine z_goto (tgt := 18) C dX6_parentAt_14 (by decide) ?_
    have hu := Option.some.inj hF
    subst hu
    exact z_iret C dX6_parentAt_18 rfl rfl
theorem kX6_policiesAt_15 : Cond.fieldLink RX6 15 "SecretBroker$Tokens" "policySets" "[I" ∈ wsX6_policiesAt := by decide +kernel
theorem hX6_policiesAt_X6 : ∀ w ∈ wsX60, w ∈ wsX6_policiesAt := by decide +kernel
set_option maxHeartbeats 4000000 in
set_option maxRecDepth 100000 in
theorem c_X6_policiesAt (l : Launch) (D : va_G) (cI cJ cZ : ClassId) (a6 : Nat → Nat) (T : SS) (x1 : Int32) (u : Int32) (hF : f_X6_policiesAt T x1 = some u) : zM l yX6_policiesAt wsX6_policiesAt ({ frames := 1, cells := 0, slots := 0, locals := 21 }) D (zTy cI cJ cZ) [.ref (a6 0), .int x1] (zwX6 cI cJ cZ a6 T) (some (.int u)) (zwX6 cI cJ cZ a6 T) := by
  refine z_body (cc := cX6_policiesAt) (maxL := 2) (rty := (some .int)) (own := RX6) (lv := [(0, .ref (a6 0)), (1, .int x1)]) (by decide +kernel) rfl rfl (Nat.le_of_ble_eq_true rfl) rfl (fun p e s m args below meth c A C => ?_)
  refine z_aload_n C dX6_policiesAt_0 rfl 0 rfl ?_
  refine z_iload_n C dX6_policiesAt_1 rfl 1 rfl ?_
  obtain ⟨r1, er1, hF⟩ := zbd hF
  refine z_callU (n := 1) (As := [.int x1]) (ws' := (zwX6 cI cJ cZ a6 T)) C (c_X2_has_6 l D cI cJ cZ a6 T x1 r1 er1) gX6_policiesAt_X2_has_u29X6 rfl rfl rfl rfl (by decide +kernel) ⟨Nat.le_of_ble_eq_true rfl, Nat.le_of_ble_eq_true rfl⟩ ⟨Nat.zero_le _, Nat.zero_le _⟩ 0 rfl rfl [] [] rfl rfl rfl rfl (Nat.le_of_ble_eq_true rfl) dX6_policiesAt_2 ?_
  refine z_if_eq (tgt := 17) C dX6_policiesAt_5 (by decide) (fun c2 => ?_) (fun c2 => ?_)
  · have hF := zif hF c2
    refine z_iconst (v := 0) C dX6_policiesAt_17 (by decide) ?_
    have hu := Option.some.inj hF
    subst hu
    exact z_iret C dX6_policiesAt_18 rfl rfl
  · have hF := zelse hF c2
    refine z_aload_n C dX6_policiesAt_8 rfl 0 rfl ?_
    refine z_get (ref := "SecretBroker$Tokens") (v := .ref (a6 6)) C hX6_policiesAt_X6 0 rfl rfl 7 (by decide) kX6_policiesAt_15 (fun _ h9 => h9) rfl dX6_policiesAt_9 ?_
    refine z_iload_n C dX6_policiesAt_12 rfl 1 rfl ?_
    obtain ⟨g3, hF⟩ := zix_some hF
    refine z_iald (v := ((T 7) x1.toNatClampNeg)) C g3 6 rfl rfl rfl dX6_policiesAt_13 ?_
    refine z_goto (tgt := 18) C dX6_policiesAt_14 (by decide) ?_
    have hu := Option.some.inj hF
    subst hu
    exact z_iret C dX6_policiesAt_18 rfl rfl
theorem kX6_usesAt_18 : Cond.fieldLink RX6 18 "SecretBroker$Tokens" "uses" "[I" ∈ wsX6_usesAt := by decide +kernel
theorem hX6_usesAt_X6 : ∀ w ∈ wsX60, w ∈ wsX6_usesAt := by decide +kernel
set_option maxHeartbeats 4000000 in
set_option maxRecDepth 100000 in
theorem c_X6_usesAt (l : Launch) (D : va_G) (cI cJ cZ : ClassId) (a6 : Nat → Nat) (T : SS) (x1 : Int32) (u : Int32) (hF : f_X6_usesAt T x1 = some u) : zM l yX6_usesAt wsX6_usesAt ({ frames := 1, cells := 0, slots := 0, locals := 21 }) D (zTy cI cJ cZ) [.ref (a6 0), .int x1] (zwX6 cI cJ cZ a6 T) (some (.int u)) (zwX6 cI cJ cZ a6 T) := by
  refine z_body (cc := cX6_usesAt) (maxL := 2) (rty := (some .int)) (own := RX6) (lv := [(0, .ref (a6 0)), (1, .int x1)]) (by decide +kernel) rfl rfl (Nat.le_of_ble_eq_true rfl) rfl (fun p e s m args below meth c A C => ?_)
  refine z_aload_n C dX6_usesAt_0 rfl 0 rfl ?_
  refine z_iload_n C dX6_usesAt_1 rfl 1 rfl ?_
  obtain ⟨r1, er1, hF⟩ := zbd hF
  refine z_callU (n := 1) (As := [.int x1]) (ws' := (zwX6 cI cJ cZ a6 T)) C (c_X2_has_6 l D cI cJ cZ a6 T x1 r1 er1) gX6_usesAt_X2_has_u29X6 rfl rfl rfl rfl (by decide +kernel) ⟨Nat.le_of_ble_eq_true rfl, Nat.le_of_ble_eq_true rfl⟩ ⟨Nat.zero_le _, Nat.zero_le _⟩ 0 rfl rfl [] [] rfl rfl rfl rfl (Nat.le_of_ble_eq_true rfl) dX6_usesAt_2 ?_
  refine z_if_eq (tgt := 17) C dX6_usesAt_5 (by decide) (fun c2 => ?_) (fun c2 => ?_)
  · have hF := zif hF c2
    refine z_iconst (v := (-1)) C dX6_usesAt_17 (by decide) ?_
    have hu := Option.some.inj hF
    subst hu
    exact z_iret C dX6_usesAt_18 rfl rfl
  · have hF := zelse hF c2
    refine z_aload_n C dX6_usesAt_8 rfl 0 rfl ?_
    refine z_get (ref := "SecretBroker$Tokens") (v := .ref (a6 7)) C hX6_usesAt_X6 0 rfl rfl 8 (by decide) kX6_usesAt_18 (fun _ h9 => h9) rfl dX6_usesAt_9 ?_
    refine z_iload_n C dX6_usesAt_12 rfl 1 rfl ?_
    obtain ⟨g3, hF⟩ := zix_some hF
    refine z_iald (v := ((T 8) x1.toNatClampNeg)) C g3 7 rfl rfl rfl dX6_usesAt_13 ?_
    refine z_goto (tgt := 18) C dX6_usesAt_14 (by decide) ?_
    have hu := Option.some.inj hF
    subst hu
    exact z_iret C dX6_usesAt_18 rfl rfl
theorem kX6_takeUse_18 : Cond.fieldLink RX6 18 "SecretBroker$Tokens" "uses" "[I" ∈ wsX6_takeUse := by decide +kernel
theorem hX6_takeUse_X6 : ∀ w ∈ wsX60, w ∈ wsX6_takeUse := by decide +kernel
set_option maxHeartbeats 4000000 in
set_option maxRecDepth 100000 in
theorem c_X6_takeUse (l : Launch) (D : va_G) (cI cJ cZ : ClassId) (a6 : Nat → Nat) (T : SS) (x1 : Int32) (u : SS) (hF : f_X6_takeUse T x1 = some u) : zM l yX6_takeUse wsX6_takeUse ({ frames := 2, cells := 0, slots := 0, locals := 42 }) D (zTy cI cJ cZ) [.ref (a6 0), .int x1] (zwX6 cI cJ cZ a6 T) none (zwX6 cI cJ cZ a6 u) := by
  refine z_body (cc := cX6_takeUse) (maxL := 2) (rty := none) (own := RX6) (lv := [(0, .ref (a6 0)), (1, .int x1)]) (by decide +kernel) rfl rfl (Nat.le_of_ble_eq_true rfl) rfl (fun p e s m args below meth c A C => ?_)
  refine z_aload_n C dX6_takeUse_0 rfl 0 rfl ?_
  refine z_iload_n C dX6_takeUse_1 rfl 1 rfl ?_
  obtain ⟨r1, er1, hF⟩ := zbd hF
  refine z_callU (n := 1) (As := [.int x1]) (ws' := (zwX6 cI cJ cZ a6 T)) C (c_X2_isOn_6 l D cI cJ cZ a6 T x1 r1 er1) gX6_takeUse_X2_isOn_u33X6 rfl rfl rfl rfl (by decide +kernel) ⟨Nat.le_of_ble_eq_true rfl, Nat.le_of_ble_eq_true rfl⟩ ⟨Nat.zero_le _, Nat.zero_le _⟩ 0 rfl rfl [] [] rfl rfl rfl rfl (Nat.le_of_ble_eq_true rfl) dX6_takeUse_2 ?_
  refine z_if_eq (tgt := 27) C dX6_takeUse_5 (by decide) (fun c2 => ?_) (fun c2 => ?_)
  · have hF := zif hF c2
    have hu := Option.some.inj hF
    subst hu
    exact z_vret C dX6_takeUse_27 rfl
  · have hF := zelse hF c2
    refine z_aload_n C dX6_takeUse_8 rfl 0 rfl ?_
    refine z_get (ref := "SecretBroker$Tokens") (v := .ref (a6 7)) C hX6_takeUse_X6 0 rfl rfl 8 (by decide) kX6_takeUse_18 (fun _ h9 => h9) rfl dX6_takeUse_9 ?_
    refine z_iload_n C dX6_takeUse_12 rfl 1 rfl ?_
    obtain ⟨g3, hF⟩ := zix_some hF
    refine z_iald (v := ((T 8) x1.toNatClampNeg)) C g3 7 rfl rfl rfl dX6_takeUse_13 ?_
    refine z_if_le (tgt := 27) C dX6_takeUse_14 (by decide) (fun c4 => ?_) (fun c4 => ?_)
    · have hF := zif hF c4
      have hu := Option.some.inj hF
      subst hu
      exact z_vret C dX6_takeUse_27 rfl
    · have hF := zelse hF c4
      refine z_aload_n C dX6_takeUse_17 rfl 0 rfl ?_
      refine z_get (ref := "SecretBroker$Tokens") (v := .ref (a6 7)) C hX6_takeUse_X6 0 rfl rfl 8 (by decide) kX6_takeUse_18 (fun _ h9 => h9) rfl dX6_takeUse_18 ?_
      refine z_iload_n C dX6_takeUse_21 rfl 1 rfl ?_
      refine z_dup2 C dX6_takeUse_22 rfl rfl ?_
      obtain ⟨g5, hF⟩ := zix_some hF
      refine z_iald (v := ((T 8) x1.toNatClampNeg)) C g5 7 rfl rfl rfl dX6_takeUse_23 ?_
      refine z_iconst (v := 1) C dX6_takeUse_24 (by decide) ?_
      refine z_isub C dX6_takeUse_25 ?_
      obtain ⟨g6, hF⟩ := zix_some hF
      refine z_iast (ws' := (zwX6 cI cJ cZ a6 (za T 8 x1 (((T 8) x1.toNatClampNeg) - 1)))) C g6 7 rfl rfl dX6_takeUse_26 (za_row T 8 x1 (((T 8) x1.toNatClampNeg) - 1)) (zr_X6_8 cI cJ cZ a6 T x1 (((T 8) x1.toNatClampNeg) - 1)) ?_
      have hu := Option.some.inj hF
      subst hu
      exact z_vret C dX6_takeUse_27 rfl
theorem kX6_freeChildren_9 : Cond.fieldLink RX6 9 "SecretBroker$Tokens" "parents" "[I" ∈ wsX6_freeChildren := by decide +kernel
theorem hX6_freeChildren_X6 : ∀ w ∈ wsX60, w ∈ wsX6_freeChildren := by decide +kernel
set_option maxHeartbeats 4000000 in
set_option maxRecDepth 100000 in
theorem c_X6_freeChildren_j2 (l : Launch) (D : va_G) (cI cJ cZ : ClassId) (a6 : Nat → Nat) (T : SS) (u : SS) {p : Program} {e : Env} {s : State} {m : MethodId} {args : Array Value} {below : List Frame} {meth : Method} {c : Code} {A : Nat → Prop} (C : zC p s m args meth c cX6_freeChildren 3 none RX6 wsX6_freeChildren D (zTy cI cJ cZ) A s.heap) : ∀ (n : Nat) (Tc : SS) (v1 : Int32) (v2 : Int32), f_X6_freeChildren_2 n Tc v1 v2 = some u → zW p l e { frames := 2, cells := 0, slots := 0, locals := 42 } s m args below meth c 3 D A s.heap 0 0 (MQ below (zQ D (zTy cI cJ cZ) none (zwX6 cI cJ cZ a6 u) A) args s 0 0 A) (zwX6 cI cJ cZ a6 Tc) [(0, .ref (a6 0)), (1, .int v1), (2, .int v2)] 2 [] := by
  intro n
  induction n with
  | zero => intro Tc v1 v2 hF; exact absurd (show none = some u from hF) (fun q => nomatch q)
  | succ n ih =>
    intro Tc v1 v2 hF
    refine z_iload_n C dX6_freeChildren_2 rfl 2 rfl ?_
    refine z_aload_n C dX6_freeChildren_3 rfl 0 rfl ?_
    obtain ⟨r1, er1, hF⟩ := zbd hF
    refine z_callU (n := 0) (As := []) (ws' := (zwX6 cI cJ cZ a6 Tc)) C (c_X2_made_6 l D cI cJ cZ a6 Tc r1 er1) gX6_freeChildren_X2_made_u36X6 rfl rfl rfl rfl (by decide +kernel) ⟨Nat.le_of_ble_eq_true rfl, Nat.le_of_ble_eq_true rfl⟩ ⟨Nat.zero_le _, Nat.zero_le _⟩ 0 rfl rfl [] [] rfl rfl rfl rfl (Nat.le_of_ble_eq_true rfl) dX6_freeChildren_4 ?_
    refine z_icmp_ge (tgt := 41) C dX6_freeChildren_7 (by decide) (fun c2 => ?_) (fun c2 => ?_)
    · have hF := zif hF c2
      have hu := Option.some.inj hF
      subst hu
      exact z_vret C dX6_freeChildren_41 rfl
    · have hF := zelse hF c2
      refine z_aload_n C dX6_freeChildren_10 rfl 0 rfl ?_
      refine z_get (ref := "SecretBroker$Tokens") (v := .ref (a6 5)) C hX6_freeChildren_X6 0 rfl rfl 6 (by decide) kX6_freeChildren_9 (fun _ h9 => h9) rfl dX6_freeChildren_11 ?_
      refine z_iload_n C dX6_freeChildren_14 rfl 2 rfl ?_
      obtain ⟨g3, hF⟩ := zix_some hF
      refine z_iald (v := ((Tc 6) v2.toNatClampNeg)) C g3 5 rfl rfl rfl dX6_freeChildren_15 ?_
      refine z_iload_n C dX6_freeChildren_16 rfl 1 rfl ?_
      refine z_icmp_ne (tgt := 35) C dX6_freeChildren_17 (by decide) (fun c4 => ?_) (fun c4 => ?_)
      · have hF := zelse hF c4
        refine z_iinc (v := (v2 + 1)) (lv' := [(2, .int (v2 + 1)), (0, .ref (a6 0)), (1, .int v1)]) C dX6_freeChildren_35 2 rfl rfl (by decide) rfl ?_
        refine z_goto (tgt := 2) C dX6_freeChildren_38 (by decide) ?_
        exact z_sub C [1, 2, 0] rfl (ih Tc v1 (v2 + 1) hF)
      · have hF := zif hF c4
        refine z_aload_n C dX6_freeChildren_20 rfl 0 rfl ?_
        refine z_iload_n C dX6_freeChildren_21 rfl 2 rfl ?_
        obtain ⟨r5, er5, hF⟩ := zbd hF
        refine z_callU (n := 1) (As := [.int v2]) (ws' := (zwX6 cI cJ cZ a6 Tc)) C (c_X2_isOn_6 l D cI cJ cZ a6 Tc v2 r5 er5) gX6_freeChildren_X2_isOn_u33X6 rfl rfl rfl rfl (by decide +kernel) ⟨Nat.le_of_ble_eq_true rfl, Nat.le_of_ble_eq_true rfl⟩ ⟨Nat.zero_le _, Nat.zero_le _⟩ 0 rfl rfl [] [] rfl rfl rfl rfl (Nat.le_of_ble_eq_true rfl) dX6_freeChildren_22 ?_
        refine z_if_eq (tgt := 35) C dX6_freeChildren_25 (by decide) (fun c6 => ?_) (fun c6 => ?_)
        · have hF := zif hF c6
          refine z_iinc (v := (v2 + 1)) (lv' := [(2, .int (v2 + 1)), (0, .ref (a6 0)), (1, .int v1)]) C dX6_freeChildren_35 2 rfl rfl (by decide) rfl ?_
          refine z_goto (tgt := 2) C dX6_freeChildren_38 (by decide) ?_
          exact z_sub C [1, 2, 0] rfl (ih Tc v1 (v2 + 1) hF)
        · have hF := zelse hF c6
          refine z_aload_n C dX6_freeChildren_28 rfl 0 rfl ?_
          refine z_get (ref := "SecretBroker$Tokens") (v := .ref (a6 5)) C hX6_freeChildren_X6 0 rfl rfl 6 (by decide) kX6_freeChildren_9 (fun _ h9 => h9) rfl dX6_freeChildren_29 ?_
          refine z_iload_n C dX6_freeChildren_32 rfl 2 rfl ?_
          refine z_iconst (v := (-1)) C dX6_freeChildren_33 (by decide) ?_
          obtain ⟨g7, hF⟩ := zix_some hF
          refine z_iast (ws' := (zwX6 cI cJ cZ a6 (za Tc 6 v2 (-1)))) C g7 5 rfl rfl dX6_freeChildren_34 (za_row Tc 6 v2 (-1)) (zr_X6_6 cI cJ cZ a6 Tc v2 (-1)) ?_
          refine z_iinc (v := (v2 + 1)) (lv' := [(2, .int (v2 + 1)), (0, .ref (a6 0)), (1, .int v1)]) C dX6_freeChildren_35 2 rfl rfl (by decide) rfl ?_
          refine z_goto (tgt := 2) C dX6_freeChildren_38 (by decide) ?_
          exact z_sub C [1, 2, 0] rfl (ih (za Tc 6 v2 (-1)) v1 (v2 + 1) hF)
set_option maxHeartbeats 4000000 in
set_option maxRecDepth 100000 in
theorem c_X6_freeChildren (l : Launch) (D : va_G) (cI cJ cZ : ClassId) (a6 : Nat → Nat) (T : SS) (x1 : Int32) (u : SS) (hF : f_X6_freeChildren T x1 = some u) : zM l yX6_freeChildren wsX6_freeChildren ({ frames := 2, cells := 0, slots := 0, locals := 42 }) D (zTy cI cJ cZ) [.ref (a6 0), .int x1] (zwX6 cI cJ cZ a6 T) none (zwX6 cI cJ cZ a6 u) := by
  refine z_body (cc := cX6_freeChildren) (maxL := 3) (rty := none) (own := RX6) (lv := [(0, .ref (a6 0)), (1, .int x1)]) (by decide +kernel) rfl rfl (Nat.le_of_ble_eq_true rfl) rfl (fun p e s m args below meth c A C => ?_)
  refine z_iconst (v := 0) C dX6_freeChildren_0 (by decide) ?_
  refine z_istore_n (lv' := [(2, .int 0), (0, .ref (a6 0)), (1, .int x1)]) C dX6_freeChildren_1 rfl (by decide) rfl ?_
  exact z_sub C [1, 2, 0] rfl (c_X6_freeChildren_j2 l D cI cJ cZ a6 T u C 600 T x1 0 hF)
theorem kX6_endBelowEnded_9 : Cond.fieldLink RX6 9 "SecretBroker$Tokens" "parents" "[I" ∈ wsX6_endBelowEnded := by decide +kernel
theorem hX6_endBelowEnded_X6 : ∀ w ∈ wsX60, w ∈ wsX6_endBelowEnded := by decide +kernel
set_option maxHeartbeats 4000000 in
set_option maxRecDepth 100000 in
theorem c_X6_endBelowEnded_j4 (l : Launch) (D : va_G) (cI cJ cZ : ClassId) (a6 : Nat → Nat) (T : SS) (u : Int32 × SS) {p : Program} {e : Env} {s : State} {m : MethodId} {args : Array Value} {below : List Frame} {meth : Method} {c : Code} {A : Nat → Prop} (C : zC p s m args meth c cX6_endBelowEnded 3 (some .int) RX6 wsX6_endBelowEnded D (zTy cI cJ cZ) A s.heap) : ∀ (n : Nat) (Tc : SS) (v1 : Int32) (v2 : Int32), f_X6_endBelowEnded_4 n Tc v1 v2 = some u → zW p l e { frames := 3, cells := 0, slots := 0, locals := 63 } s m args below meth c 3 D A s.heap 0 0 (MQ below (zQ D (zTy cI cJ cZ) (some (.int u.1)) (zwX6 cI cJ cZ a6 u.2) A) args s 0 0 A) (zwX6 cI cJ cZ a6 Tc) [(0, .ref (a6 0)), (1, .int v1), (2, .int v2)] 4 [] := by
  intro n
  induction n with
  | zero => intro Tc v1 v2 hF; exact absurd (show none = some u from hF) (fun q => nomatch q)
  | succ n ih =>
    intro Tc v1 v2 hF
    refine z_iload_n C dX6_endBelowEnded_4 rfl 2 rfl ?_
    refine z_aload_n C dX6_endBelowEnded_5 rfl 0 rfl ?_
    obtain ⟨r1, er1, hF⟩ := zbd hF
    refine z_callU (n := 0) (As := []) (ws' := (zwX6 cI cJ cZ a6 Tc)) C (c_X2_made_6 l D cI cJ cZ a6 Tc r1 er1) gX6_endBelowEnded_X2_made_u36X6 rfl rfl rfl rfl (by decide +kernel) ⟨Nat.le_of_ble_eq_true rfl, Nat.le_of_ble_eq_true rfl⟩ ⟨Nat.zero_le _, Nat.zero_le _⟩ 0 rfl rfl [] [] rfl rfl rfl rfl (Nat.le_of_ble_eq_true rfl) dX6_endBelowEnded_6 ?_
    refine z_icmp_ge (tgt := 49) C dX6_endBelowEnded_9 (by decide) (fun c2 => ?_) (fun c2 => ?_)
    · have hF := zif hF c2
      refine z_iload_n C dX6_endBelowEnded_49 rfl 1 rfl ?_
      have hu := Option.some.inj hF
      subst hu
      exact z_iret C dX6_endBelowEnded_50 rfl rfl
    · have hF := zelse hF c2
      refine z_aload_n C dX6_endBelowEnded_12 rfl 0 rfl ?_
      refine z_get (ref := "SecretBroker$Tokens") (v := .ref (a6 5)) C hX6_endBelowEnded_X6 0 rfl rfl 6 (by decide) kX6_endBelowEnded_9 (fun _ h9 => h9) rfl dX6_endBelowEnded_13 ?_
      refine z_iload_n C dX6_endBelowEnded_16 rfl 2 rfl ?_
      obtain ⟨g3, hF⟩ := zix_some hF
      refine z_iald (v := ((Tc 6) v2.toNatClampNeg)) C g3 5 rfl rfl rfl dX6_endBelowEnded_17 ?_
      refine z_iconst (v := (-1)) C dX6_endBelowEnded_18 (by decide) ?_
      refine z_icmp_eq (tgt := 43) C dX6_endBelowEnded_19 (by decide) (fun c4 => ?_) (fun c4 => ?_)
      · have hF := zif hF c4
        refine z_iinc (v := (v2 + 1)) (lv' := [(2, .int (v2 + 1)), (0, .ref (a6 0)), (1, .int v1)]) C dX6_endBelowEnded_43 2 rfl rfl (by decide) rfl ?_
        refine z_goto (tgt := 4) C dX6_endBelowEnded_46 (by decide) ?_
        exact z_sub C [1, 2, 0] rfl (ih Tc v1 (v2 + 1) hF)
      · have hF := zelse hF c4
        refine z_aload_n C dX6_endBelowEnded_22 rfl 0 rfl ?_
        refine z_aload_n C dX6_endBelowEnded_23 rfl 0 rfl ?_
        refine z_get (ref := "SecretBroker$Tokens") (v := .ref (a6 5)) C hX6_endBelowEnded_X6 0 rfl rfl 6 (by decide) kX6_endBelowEnded_9 (fun _ h9 => h9) rfl dX6_endBelowEnded_24 ?_
        refine z_iload_n C dX6_endBelowEnded_27 rfl 2 rfl ?_
        obtain ⟨g5, hF⟩ := zix_some hF
        refine z_iald (v := ((Tc 6) v2.toNatClampNeg)) C g5 5 rfl rfl rfl dX6_endBelowEnded_28 ?_
        obtain ⟨r6, er6, hF⟩ := zbd hF
        refine z_callU (n := 1) (As := [.int ((Tc 6) v2.toNatClampNeg)]) (ws' := (zwX6 cI cJ cZ a6 Tc)) C (c_X2_isOn_6 l D cI cJ cZ a6 Tc ((Tc 6) v2.toNatClampNeg) r6 er6) gX6_endBelowEnded_X2_isOn_u33X6 rfl rfl rfl rfl (by decide +kernel) ⟨Nat.le_of_ble_eq_true rfl, Nat.le_of_ble_eq_true rfl⟩ ⟨Nat.zero_le _, Nat.zero_le _⟩ 0 rfl rfl [] [] rfl rfl rfl rfl (Nat.le_of_ble_eq_true rfl) dX6_endBelowEnded_29 ?_
        refine z_if_ne (tgt := 43) C dX6_endBelowEnded_32 (by decide) (fun c7 => ?_) (fun c7 => ?_)
        · have hF := zelse hF c7
          refine z_iinc (v := (v2 + 1)) (lv' := [(2, .int (v2 + 1)), (0, .ref (a6 0)), (1, .int v1)]) C dX6_endBelowEnded_43 2 rfl rfl (by decide) rfl ?_
          refine z_goto (tgt := 4) C dX6_endBelowEnded_46 (by decide) ?_
          exact z_sub C [1, 2, 0] rfl (ih Tc v1 (v2 + 1) hF)
        · have hF := zif hF c7
          refine z_iload_n C dX6_endBelowEnded_35 rfl 1 rfl ?_
          refine z_aload_n C dX6_endBelowEnded_36 rfl 0 rfl ?_
          refine z_iload_n C dX6_endBelowEnded_37 rfl 2 rfl ?_
          obtain ⟨r8, er8, hF⟩ := zbd hF
          refine z_callU (n := 1) (As := [.int v2]) (ws' := (zwX6 cI cJ cZ a6 r8.2)) C (c_X2_end_6 l D cI cJ cZ a6 Tc v2 r8 er8) gX6_endBelowEnded_X2_end_u40X6 rfl rfl rfl rfl (by decide +kernel) ⟨Nat.le_of_ble_eq_true rfl, Nat.le_of_ble_eq_true rfl⟩ ⟨Nat.zero_le _, Nat.zero_le _⟩ 0 rfl rfl [] [] rfl rfl rfl rfl (Nat.le_of_ble_eq_true rfl) dX6_endBelowEnded_38 ?_
          refine z_iadd C dX6_endBelowEnded_41 ?_
          refine z_istore_n (lv' := [(1, .int (v1 + r8.1)), (0, .ref (a6 0)), (2, .int v2)]) C dX6_endBelowEnded_42 rfl (by decide) rfl ?_
          refine z_iinc (v := (v2 + 1)) (lv' := [(2, .int (v2 + 1)), (1, .int (v1 + r8.1)), (0, .ref (a6 0))]) C dX6_endBelowEnded_43 2 rfl rfl (by decide) rfl ?_
          refine z_goto (tgt := 4) C dX6_endBelowEnded_46 (by decide) ?_
          exact z_sub C [2, 1, 0] rfl (ih r8.2 (v1 + r8.1) (v2 + 1) hF)
set_option maxHeartbeats 4000000 in
set_option maxRecDepth 100000 in
theorem c_X6_endBelowEnded (l : Launch) (D : va_G) (cI cJ cZ : ClassId) (a6 : Nat → Nat) (T : SS) (u : Int32 × SS) (hF : f_X6_endBelowEnded T = some u) : zM l yX6_endBelowEnded wsX6_endBelowEnded ({ frames := 3, cells := 0, slots := 0, locals := 63 }) D (zTy cI cJ cZ) [.ref (a6 0)] (zwX6 cI cJ cZ a6 T) (some (.int u.1)) (zwX6 cI cJ cZ a6 u.2) := by
  refine z_body (cc := cX6_endBelowEnded) (maxL := 3) (rty := (some .int)) (own := RX6) (lv := [(0, .ref (a6 0))]) (by decide +kernel) rfl rfl (Nat.le_of_ble_eq_true rfl) rfl (fun p e s m args below meth c A C => ?_)
  refine z_iconst (v := 0) C dX6_endBelowEnded_0 (by decide) ?_
  refine z_istore_n (lv' := [(1, .int 0), (0, .ref (a6 0))]) C dX6_endBelowEnded_1 rfl (by decide) rfl ?_
  refine z_iconst (v := 0) C dX6_endBelowEnded_2 (by decide) ?_
  refine z_istore_n (lv' := [(2, .int 0), (1, .int 0), (0, .ref (a6 0))]) C dX6_endBelowEnded_3 rfl (by decide) rfl ?_
  exact z_sub C [2, 1, 0] rfl (c_X6_endBelowEnded_j4 l D cI cJ cZ a6 T u C 600 T 0 0 hF)
set_option maxHeartbeats 4000000 in
set_option maxRecDepth 100000 in
theorem c_X6_hangsBelow_j9 (l : Launch) (D : va_G) (cI cJ cZ : ClassId) (a6 : Nat → Nat) (T : SS) (u : Int32) {p : Program} {e : Env} {s : State} {m : MethodId} {args : Array Value} {below : List Frame} {meth : Method} {c : Code} {A : Nat → Prop} (C : zC p s m args meth c cX6_hangsBelow 5 (some .boolean) RX6 wsX6_hangsBelow D (zTy cI cJ cZ) A s.heap) : ∀ (n : Nat) (v2 : Int32) (v3 : Int32) (v4 : Int32), f_X6_hangsBelow_9 T n v2 v3 v4 = some u → zW p l e { frames := 2, cells := 0, slots := 0, locals := 42 } s m args below meth c 5 D A s.heap 0 0 (MQ below (zQ D (zTy cI cJ cZ) (some (.int u)) (zwX6 cI cJ cZ a6 T) A) args s 0 0 A) (zwX6 cI cJ cZ a6 T) [(0, .ref (a6 0)), (2, .int v2), (3, .int v3), (4, .int v4)] 9 [] := by
  intro n
  induction n with
  | zero => intro v2 v3 v4 hF; exact absurd (show none = some u from hF) (fun q => nomatch q)
  | succ n ih =>
    intro v2 v3 v4 hF
    refine z_iload C dX6_hangsBelow_9 3 rfl ?_
    refine z_sipush (v := 513) C dX6_hangsBelow_11 (by decide) ?_
    refine z_icmp_ge (tgt := 34) C dX6_hangsBelow_14 (by decide) (fun c2 => ?_) (fun c2 => ?_)
    · have hF := zif hF c2
      refine z_iload_n C dX6_hangsBelow_34 rfl 2 rfl ?_
      refine z_iload_n C dX6_hangsBelow_35 rfl 1 rfl ?_
      refine z_icmp_ne (tgt := 43) C dX6_hangsBelow_36 (by decide) (fun c3 => ?_) (fun c3 => ?_)
      · have hF := zelse hF c3
        refine z_iconst (v := 0) C dX6_hangsBelow_43 (by decide) ?_
        have hu := Option.some.inj hF
        subst hu
        exact z_iret C dX6_hangsBelow_44 rfl z_b0
      · have hF := zif hF c3
        refine z_iconst (v := 1) C dX6_hangsBelow_39 (by decide) ?_
        refine z_goto (tgt := 44) C dX6_hangsBelow_40 (by decide) ?_
        have hu := Option.some.inj hF
        subst hu
        exact z_iret C dX6_hangsBelow_44 rfl z_b1
    · have hF := zelse hF c2
      refine z_iload_n C dX6_hangsBelow_17 rfl 2 rfl ?_
      refine z_iload_n C dX6_hangsBelow_18 rfl 1 rfl ?_
      refine z_icmp_le (tgt := 34) C dX6_hangsBelow_19 (by decide) (fun c4 => ?_) (fun c4 => ?_)
      · have hF := zif hF c4
        refine z_iload_n C dX6_hangsBelow_34 rfl 2 rfl ?_
        refine z_iload_n C dX6_hangsBelow_35 rfl 1 rfl ?_
        refine z_icmp_ne (tgt := 43) C dX6_hangsBelow_36 (by decide) (fun c5 => ?_) (fun c5 => ?_)
        · have hF := zelse hF c5
          refine z_iconst (v := 0) C dX6_hangsBelow_43 (by decide) ?_
          have hu := Option.some.inj hF
          subst hu
          exact z_iret C dX6_hangsBelow_44 rfl z_b0
        · have hF := zif hF c5
          refine z_iconst (v := 1) C dX6_hangsBelow_39 (by decide) ?_
          refine z_goto (tgt := 44) C dX6_hangsBelow_40 (by decide) ?_
          have hu := Option.some.inj hF
          subst hu
          exact z_iret C dX6_hangsBelow_44 rfl z_b1
      · have hF := zelse hF c4
        refine z_aload_n C dX6_hangsBelow_22 rfl 0 rfl ?_
        refine z_iload_n C dX6_hangsBelow_23 rfl 2 rfl ?_
        obtain ⟨r6, er6, hF⟩ := zbd hF
        refine z_callV (n := 1) (As := [.int v3]) (ws' := (zwX6 cI cJ cZ a6 T)) C (c_X6_parentAt l D cI cJ cZ a6 T v3 r6 er6) gX6_hangsBelow_X6_parentAt rfl rfl rfl (by decide +kernel) ⟨Nat.le_of_ble_eq_true rfl, Nat.le_of_ble_eq_true rfl⟩ ⟨Nat.zero_le _, Nat.zero_le _⟩ 0 rfl rfl [] [] rfl rfl rfl rfl (Nat.le_of_ble_eq_true rfl) dX6_hangsBelow_24 ?_
        refine z_istore_n (lv' := [(3, .int r6), (0, .ref (a6 0)), (2, .int v2), (4, .int v4)]) C dX6_hangsBelow_27 rfl (by decide) rfl ?_
        refine z_iinc (v := (v4 + 1)) (lv' := [(4, .int (v4 + 1)), (3, .int r6), (0, .ref (a6 0)), (2, .int v2)]) C dX6_hangsBelow_28 3 rfl rfl (by decide) rfl ?_
        refine z_goto (tgt := 9) C dX6_hangsBelow_31 (by decide) ?_
        exact z_sub C [2, 3, 1, 0] rfl (ih v2 r6 (v4 + 1) hF)
set_option maxHeartbeats 4000000 in
set_option maxRecDepth 100000 in
theorem c_X6_hangsBelow (l : Launch) (D : va_G) (cI cJ cZ : ClassId) (a6 : Nat → Nat) (T : SS) (x1 : Int32) (x2 : Int32) (u : Int32) (hF : f_X6_hangsBelow T x1 x2 = some u) : zM l yX6_hangsBelow wsX6_hangsBelow ({ frames := 2, cells := 0, slots := 0, locals := 42 }) D (zTy cI cJ cZ) [.ref (a6 0), .int x1, .int x2] (zwX6 cI cJ cZ a6 T) (some (.int u)) (zwX6 cI cJ cZ a6 T) := by
  refine z_body (cc := cX6_hangsBelow) (maxL := 5) (rty := (some .boolean)) (own := RX6) (lv := [(0, .ref (a6 0)), (1, .int x1), (2, .int x2)]) (by decide +kernel) rfl rfl (Nat.le_of_ble_eq_true rfl) rfl (fun p e s m args below meth c A C => ?_)
  refine z_aload_n C dX6_hangsBelow_0 rfl 0 rfl ?_
  refine z_iload_n C dX6_hangsBelow_1 rfl 1 rfl ?_
  obtain ⟨r1, er1, hF⟩ := zbd hF
  refine z_callV (n := 1) (As := [.int x1]) (ws' := (zwX6 cI cJ cZ a6 T)) C (c_X6_parentAt l D cI cJ cZ a6 T x1 r1 er1) gX6_hangsBelow_X6_parentAt rfl rfl rfl (by decide +kernel) ⟨Nat.le_of_ble_eq_true rfl, Nat.le_of_ble_eq_true rfl⟩ ⟨Nat.zero_le _, Nat.zero_le _⟩ 0 rfl rfl [] [] rfl rfl rfl rfl (Nat.le_of_ble_eq_true rfl) dX6_hangsBelow_2 ?_
  refine z_istore_n (lv' := [(3, .int r1), (0, .ref (a6 0)), (1, .int x1), (2, .int x2)]) C dX6_hangsBelow_5 rfl (by decide) rfl ?_
  refine z_iconst (v := 0) C dX6_hangsBelow_6 (by decide) ?_
  refine z_istore (lv' := [(4, .int 0), (3, .int r1), (0, .ref (a6 0)), (1, .int x1), (2, .int x2)]) C dX6_hangsBelow_7 (by decide) rfl ?_
  exact z_sub C [2, 4, 1, 0] rfl (c_X6_hangsBelow_j9 l D cI cJ cZ a6 T u C 600 x2 r1 0 hF)
set_option maxHeartbeats 4000000 in
set_option maxRecDepth 100000 in
theorem c_X6_livingBelow_j4 (l : Launch) (D : va_G) (cI cJ cZ : ClassId) (a6 : Nat → Nat) (T : SS) (u : Int32) {p : Program} {e : Env} {s : State} {m : MethodId} {args : Array Value} {below : List Frame} {meth : Method} {c : Code} {A : Nat → Prop} (C : zC p s m args meth c cX6_livingBelow 4 (some .int) RX6 wsX6_livingBelow D (zTy cI cJ cZ) A s.heap) : ∀ (n : Nat) (v1 : Int32) (v2 : Int32) (v3 : Int32), f_X6_livingBelow_4 T n v1 v2 v3 = some u → zW p l e { frames := 3, cells := 0, slots := 0, locals := 66 } s m args below meth c 4 D A s.heap 0 0 (MQ below (zQ D (zTy cI cJ cZ) (some (.int u)) (zwX6 cI cJ cZ a6 T) A) args s 0 0 A) (zwX6 cI cJ cZ a6 T) [(0, .ref (a6 0)), (1, .int v1), (2, .int v2), (3, .int v3)] 4 [] := by
  intro n
  induction n with
  | zero => intro v1 v2 v3 hF; exact absurd (show none = some u from hF) (fun q => nomatch q)
  | succ n ih =>
    intro v1 v2 v3 hF
    refine z_iload_n C dX6_livingBelow_4 rfl 3 rfl ?_
    refine z_aload_n C dX6_livingBelow_5 rfl 0 rfl ?_
    obtain ⟨r1, er1, hF⟩ := zbd hF
    refine z_callU (n := 0) (As := []) (ws' := (zwX6 cI cJ cZ a6 T)) C (c_X2_made_6 l D cI cJ cZ a6 T r1 er1) gX6_livingBelow_X2_made_u36X6 rfl rfl rfl rfl (by decide +kernel) ⟨Nat.le_of_ble_eq_true rfl, Nat.le_of_ble_eq_true rfl⟩ ⟨Nat.zero_le _, Nat.zero_le _⟩ 0 rfl rfl [] [] rfl rfl rfl rfl (Nat.le_of_ble_eq_true rfl) dX6_livingBelow_6 ?_
    refine z_icmp_ge (tgt := 38) C dX6_livingBelow_9 (by decide) (fun c2 => ?_) (fun c2 => ?_)
    · have hF := zif hF c2
      refine z_iload_n C dX6_livingBelow_38 rfl 2 rfl ?_
      have hu := Option.some.inj hF
      subst hu
      exact z_iret C dX6_livingBelow_39 rfl rfl
    · have hF := zelse hF c2
      refine z_aload_n C dX6_livingBelow_12 rfl 0 rfl ?_
      refine z_iload_n C dX6_livingBelow_13 rfl 3 rfl ?_
      obtain ⟨r3, er3, hF⟩ := zbd hF
      refine z_callU (n := 1) (As := [.int v3]) (ws' := (zwX6 cI cJ cZ a6 T)) C (c_X2_isOn_6 l D cI cJ cZ a6 T v3 r3 er3) gX6_livingBelow_X2_isOn_u33X6 rfl rfl rfl rfl (by decide +kernel) ⟨Nat.le_of_ble_eq_true rfl, Nat.le_of_ble_eq_true rfl⟩ ⟨Nat.zero_le _, Nat.zero_le _⟩ 0 rfl rfl [] [] rfl rfl rfl rfl (Nat.le_of_ble_eq_true rfl) dX6_livingBelow_14 ?_
      refine z_if_eq (tgt := 32) C dX6_livingBelow_17 (by decide) (fun c4 => ?_) (fun c4 => ?_)
      · have hF := zif hF c4
        refine z_iinc (v := (v3 + 1)) (lv' := [(3, .int (v3 + 1)), (0, .ref (a6 0)), (1, .int v1), (2, .int v2)]) C dX6_livingBelow_32 3 rfl rfl (by decide) rfl ?_
        refine z_goto (tgt := 4) C dX6_livingBelow_35 (by decide) ?_
        exact z_sub C [1, 2, 3, 0] rfl (ih v1 v2 (v3 + 1) hF)
      · have hF := zelse hF c4
        refine z_aload_n C dX6_livingBelow_20 rfl 0 rfl ?_
        refine z_iload_n C dX6_livingBelow_21 rfl 3 rfl ?_
        refine z_iload_n C dX6_livingBelow_22 rfl 1 rfl ?_
        obtain ⟨r5, er5, hF⟩ := zbd hF
        refine z_callV (n := 2) (As := [.int v3, .int v1]) (ws' := (zwX6 cI cJ cZ a6 T)) C (c_X6_hangsBelow l D cI cJ cZ a6 T v3 v1 r5 er5) gX6_livingBelow_X6_hangsBelow rfl rfl rfl (by decide +kernel) ⟨Nat.le_of_ble_eq_true rfl, Nat.le_of_ble_eq_true rfl⟩ ⟨Nat.zero_le _, Nat.zero_le _⟩ 0 rfl rfl [] [] rfl rfl rfl rfl (Nat.le_of_ble_eq_true rfl) dX6_livingBelow_23 ?_
        refine z_if_eq (tgt := 32) C dX6_livingBelow_26 (by decide) (fun c6 => ?_) (fun c6 => ?_)
        · have hF := zif hF c6
          refine z_iinc (v := (v3 + 1)) (lv' := [(3, .int (v3 + 1)), (0, .ref (a6 0)), (1, .int v1), (2, .int v2)]) C dX6_livingBelow_32 3 rfl rfl (by decide) rfl ?_
          refine z_goto (tgt := 4) C dX6_livingBelow_35 (by decide) ?_
          exact z_sub C [1, 2, 3, 0] rfl (ih v1 v2 (v3 + 1) hF)
        · have hF := zelse hF c6
          refine z_iinc (v := (v2 + 1)) (lv' := [(2, .int (v2 + 1)), (0, .ref (a6 0)), (1, .int v1), (3, .int v3)]) C dX6_livingBelow_29 2 rfl rfl (by decide) rfl ?_
          refine z_iinc (v := (v3 + 1)) (lv' := [(3, .int (v3 + 1)), (2, .int (v2 + 1)), (0, .ref (a6 0)), (1, .int v1)]) C dX6_livingBelow_32 3 rfl rfl (by decide) rfl ?_
          refine z_goto (tgt := 4) C dX6_livingBelow_35 (by decide) ?_
          exact z_sub C [2, 3, 1, 0] rfl (ih v1 (v2 + 1) (v3 + 1) hF)
set_option maxHeartbeats 4000000 in
set_option maxRecDepth 100000 in
theorem c_X6_livingBelow (l : Launch) (D : va_G) (cI cJ cZ : ClassId) (a6 : Nat → Nat) (T : SS) (x1 : Int32) (u : Int32) (hF : f_X6_livingBelow T x1 = some u) : zM l yX6_livingBelow wsX6_livingBelow ({ frames := 3, cells := 0, slots := 0, locals := 66 }) D (zTy cI cJ cZ) [.ref (a6 0), .int x1] (zwX6 cI cJ cZ a6 T) (some (.int u)) (zwX6 cI cJ cZ a6 T) := by
  refine z_body (cc := cX6_livingBelow) (maxL := 4) (rty := (some .int)) (own := RX6) (lv := [(0, .ref (a6 0)), (1, .int x1)]) (by decide +kernel) rfl rfl (Nat.le_of_ble_eq_true rfl) rfl (fun p e s m args below meth c A C => ?_)
  refine z_iconst (v := 0) C dX6_livingBelow_0 (by decide) ?_
  refine z_istore_n (lv' := [(2, .int 0), (0, .ref (a6 0)), (1, .int x1)]) C dX6_livingBelow_1 rfl (by decide) rfl ?_
  refine z_iconst (v := 0) C dX6_livingBelow_2 (by decide) ?_
  refine z_istore_n (lv' := [(3, .int 0), (2, .int 0), (0, .ref (a6 0)), (1, .int x1)]) C dX6_livingBelow_3 rfl (by decide) rfl ?_
  exact z_sub C [2, 3, 1, 0] rfl (c_X6_livingBelow_j4 l D cI cJ cZ a6 T u C 600 x1 0 0 hF)
