theorem kX0_count_25 : Cond.fieldLink RX0 25 "SecretBroker$Audit" "count" "I" ∈ wsX0_count := by decide +kernel
theorem hX0_count_X0 : ∀ w ∈ wsX00, w ∈ wsX0_count := by decide +kernel
set_option maxHeartbeats 4000000 in
set_option maxRecDepth 100000 in
theorem c_X0_count (l : Launch) (D : va_G) (cI cJ cZ : ClassId) (a0 : Nat → Nat) (U : SS) (L : SL) (u : Int32) (hF : f_X0_count U = some u) : zM l yX0_count wsX0_count ({ frames := 0, cells := 0, slots := 0, locals := 0 }) D (zTy cI cJ cZ) [.ref (a0 0)] (zwX0 cI cJ cZ a0 U L) (some (.int u)) (zwX0 cI cJ cZ a0 U L) := by
  refine z_body (cc := cX0_count) (maxL := 1) (rty := (some .int)) (own := RX0) (lv := [(0, .ref (a0 0))]) (by decide +kernel) rfl rfl (Nat.le_of_ble_eq_true rfl) rfl (fun p e s m args below meth c A C => ?_)
  refine z_aload_n C dX0_count_0 rfl 0 rfl ?_
  refine z_get (ref := "SecretBroker$Audit") (v := .int (U 4 0)) C hX0_count_X0 0 rfl rfl 4 (by decide) kX0_count_25 (fun _ h9 => h9) rfl dX0_count_1 ?_
  have hu := Option.some.inj hF
  subst hu
  exact z_iret C dX0_count_4 rfl rfl
theorem kX0_has_25 : Cond.fieldLink RX0 25 "SecretBroker$Audit" "count" "I" ∈ wsX0_has := by decide +kernel
theorem hX0_has_X0 : ∀ w ∈ wsX00, w ∈ wsX0_has := by decide +kernel
set_option maxHeartbeats 4000000 in
set_option maxRecDepth 100000 in
theorem c_X0_has (l : Launch) (D : va_G) (cI cJ cZ : ClassId) (a0 : Nat → Nat) (U : SS) (L : SL) (x1 : Int32) (u : Int32) (hF : f_X0_has U x1 = some u) : zM l yX0_has wsX0_has ({ frames := 0, cells := 0, slots := 0, locals := 0 }) D (zTy cI cJ cZ) [.ref (a0 0), .int x1] (zwX0 cI cJ cZ a0 U L) (some (.int u)) (zwX0 cI cJ cZ a0 U L) := by
  refine z_body (cc := cX0_has) (maxL := 2) (rty := (some .boolean)) (own := RX0) (lv := [(0, .ref (a0 0)), (1, .int x1)]) (by decide +kernel) rfl rfl (Nat.le_of_ble_eq_true rfl) rfl (fun p e s m args below meth c A C => ?_)
  refine z_iload_n C dX0_has_0 rfl 1 rfl ?_
  refine z_if_lt (tgt := 16) C dX0_has_1 (by decide) (fun c1 => ?_) (fun c1 => ?_)
  · have hF := zif hF c1
    refine z_iconst (v := 0) C dX0_has_16 (by decide) ?_
    have hu := Option.some.inj hF
    subst hu
    exact z_iret C dX0_has_17 rfl z_b0
  · have hF := zelse hF c1
    refine z_iload_n C dX0_has_4 rfl 1 rfl ?_
    refine z_aload_n C dX0_has_5 rfl 0 rfl ?_
    refine z_get (ref := "SecretBroker$Audit") (v := .int (U 4 0)) C hX0_has_X0 0 rfl rfl 4 (by decide) kX0_has_25 (fun _ h9 => h9) rfl dX0_has_6 ?_
    refine z_icmp_ge (tgt := 16) C dX0_has_9 (by decide) (fun c2 => ?_) (fun c2 => ?_)
    · have hF := zif hF c2
      refine z_iconst (v := 0) C dX0_has_16 (by decide) ?_
      have hu := Option.some.inj hF
      subst hu
      exact z_iret C dX0_has_17 rfl z_b0
    · have hF := zelse hF c2
      refine z_iconst (v := 1) C dX0_has_12 (by decide) ?_
      refine z_goto (tgt := 17) C dX0_has_13 (by decide) ?_
      have hu := Option.some.inj hF
      subst hu
      exact z_iret C dX0_has_17 rfl z_b1
theorem kX0_write_25 : Cond.fieldLink RX0 25 "SecretBroker$Audit" "count" "I" ∈ wsX0_write := by decide +kernel
theorem kX0_write_21 : Cond.fieldLink RX0 21 "SecretBroker$Audit" "sums" "[J" ∈ wsX0_write := by decide +kernel
theorem kX0_write_9 : Cond.fieldLink RX0 9 "SecretBroker$Audit" "kinds" "[I" ∈ wsX0_write := by decide +kernel
theorem kX0_write_15 : Cond.fieldLink RX0 15 "SecretBroker$Audit" "subjects" "[I" ∈ wsX0_write := by decide +kernel
theorem kX0_write_18 : Cond.fieldLink RX0 18 "SecretBroker$Audit" "details" "[I" ∈ wsX0_write := by decide +kernel
theorem kX0_write_31 : Cond.constantLong RX0 31 (31) ∈ wsX0_write := by decide +kernel
theorem kX0_write_33 : Cond.constantLong RX0 33 (7) ∈ wsX0_write := by decide +kernel
theorem kX0_write_35 : Cond.constantLong RX0 35 (5) ∈ wsX0_write := by decide +kernel
theorem kX0_write_37 : Cond.constantLong RX0 37 (3) ∈ wsX0_write := by decide +kernel
theorem kX0_write_39 : Cond.constantLong RX0 39 (1000003) ∈ wsX0_write := by decide +kernel
theorem kX0_write_29 : Cond.constantLong RX0 29 (17) ∈ wsX0_write := by decide +kernel
theorem hX0_write_X0 : ∀ w ∈ wsX00, w ∈ wsX0_write := by decide +kernel
set_option maxHeartbeats 4000000 in
set_option maxRecDepth 100000 in
theorem c_X0_write (l : Launch) (D : va_G) (cI cJ cZ : ClassId) (a0 : Nat → Nat) (U : SS) (L : SL) (x1 : Int32) (x2 : Int32) (x3 : Int32) (x4 : Int32) (u : SS × SL) (hF : f_X0_write U L x1 x2 x3 x4 = some u) : zM l yX0_write wsX0_write ({ frames := 0, cells := 0, slots := 0, locals := 0 }) D (zTy cI cJ cZ) [.ref (a0 0), .int x1, .int x2, .int x3, .int x4] (zwX0 cI cJ cZ a0 U L) none (zwX0 cI cJ cZ a0 u.1 u.2) := by
  refine z_body (cc := cX0_write) (maxL := 7) (rty := none) (own := RX0) (lv := [(0, .ref (a0 0)), (1, .int x1), (2, .int x2), (3, .int x3), (4, .int x4)]) (by decide +kernel) rfl rfl (Nat.le_of_ble_eq_true rfl) rfl (fun p e s m args below meth c A C => ?_)
  refine z_aload_n C dX0_write_0 rfl 0 rfl ?_
  refine z_get (ref := "SecretBroker$Audit") (v := .int (U 4 0)) C hX0_write_X0 0 rfl rfl 4 (by decide) kX0_write_25 (fun _ h9 => h9) rfl dX0_write_1 ?_
  refine z_sipush (v := 513) C dX0_write_4 (by decide) ?_
  refine z_icmp_lt (tgt := 11) C dX0_write_7 (by decide) (fun c1 => ?_) (fun c1 => ?_)
  · have hF := zif hF c1
    refine z_aload_n C dX0_write_11 rfl 0 rfl ?_
    refine z_get (ref := "SecretBroker$Audit") (v := .int (U 4 0)) C hX0_write_X0 0 rfl rfl 4 (by decide) kX0_write_25 (fun _ h9 => h9) rfl dX0_write_12 ?_
    refine z_if_ne (tgt := 24) C dX0_write_15 (by decide) (fun c2 => ?_) (fun c2 => ?_)
    · have hF := zelse hF c2
      refine z_aload_n C dX0_write_24 rfl 0 rfl ?_
      refine z_get (ref := "SecretBroker$Audit") (v := .ref (a0 4)) C hX0_write_X0 0 rfl rfl 3 (by decide) kX0_write_21 (fun _ h9 => h9) rfl dX0_write_25 ?_
      refine z_aload_n C dX0_write_28 rfl 0 rfl ?_
      refine z_get (ref := "SecretBroker$Audit") (v := .int (U 4 0)) C hX0_write_X0 0 rfl rfl 4 (by decide) kX0_write_25 (fun _ h9 => h9) rfl dX0_write_29 ?_
      refine z_iconst (v := 1) C dX0_write_32 (by decide) ?_
      refine z_isub C dX0_write_33 ?_
      obtain ⟨g3, hF⟩ := zix_some hF
      refine z_lald (v := (L ((U 4 0) - 1).toNatClampNeg)) C g3 4 rfl rfl rfl dX0_write_34 ?_
      refine z_lstore (lv' := [(5, .long (L ((U 4 0) - 1).toNatClampNeg)), (0, .ref (a0 0)), (1, .int x1), (2, .int x2), (3, .int x3), (4, .int x4)]) C dX0_write_35 (by decide) rfl ?_
      refine z_aload_n C dX0_write_37 rfl 1 rfl ?_
      refine z_get (ref := "SecretBroker$Audit") (v := .ref (a0 1)) C hX0_write_X0 0 rfl rfl 0 (by decide) kX0_write_9 (fun _ h9 => h9) rfl dX0_write_38 ?_
      refine z_aload_n C dX0_write_41 rfl 1 rfl ?_
      refine z_get (ref := "SecretBroker$Audit") (v := .int (U 4 0)) C hX0_write_X0 0 rfl rfl 4 (by decide) kX0_write_25 (fun _ h9 => h9) rfl dX0_write_42 ?_
      refine z_iload_n C dX0_write_45 rfl 2 rfl ?_
      obtain ⟨g4, hF⟩ := zix_some hF
      refine z_iast (ws' := (zwX0 cI cJ cZ a0 (za U 0 (U 4 0) x1) L)) C g4 1 rfl rfl dX0_write_46 (za_row U 0 (U 4 0) x1) (zr_X0_0 cI cJ cZ a0 U L (U 4 0) x1) ?_
      refine z_aload_n C dX0_write_47 rfl 1 rfl ?_
      refine z_get (ref := "SecretBroker$Audit") (v := .ref (a0 2)) C hX0_write_X0 0 rfl rfl 1 (by decide) kX0_write_15 (fun _ h9 => h9) rfl dX0_write_48 ?_
      refine z_aload_n C dX0_write_51 rfl 1 rfl ?_
      refine z_get (ref := "SecretBroker$Audit") (v := .int (U 4 0)) C hX0_write_X0 0 rfl rfl 4 (by decide) kX0_write_25 (fun _ h9 => h9) rfl dX0_write_52 ?_
      refine z_iload_n C dX0_write_55 rfl 3 rfl ?_
      obtain ⟨g5, hF⟩ := zix_some hF
      refine z_iast (ws' := (zwX0 cI cJ cZ a0 (za (za U 0 (U 4 0) x1) 1 (U 4 0) x2) L)) C g5 2 rfl rfl dX0_write_56 (za_row (za U 0 (U 4 0) x1) 1 (U 4 0) x2) (zr_X0_1 cI cJ cZ a0 (za U 0 (U 4 0) x1) L (U 4 0) x2) ?_
      refine z_aload_n C dX0_write_57 rfl 1 rfl ?_
      refine z_get (ref := "SecretBroker$Audit") (v := .ref (a0 3)) C hX0_write_X0 0 rfl rfl 2 (by decide) kX0_write_18 (fun _ h9 => h9) rfl dX0_write_58 ?_
      refine z_aload_n C dX0_write_61 rfl 1 rfl ?_
      refine z_get (ref := "SecretBroker$Audit") (v := .int (U 4 0)) C hX0_write_X0 0 rfl rfl 4 (by decide) kX0_write_25 (fun _ h9 => h9) rfl dX0_write_62 ?_
      refine z_iload_n C dX0_write_65 rfl 4 rfl ?_
      obtain ⟨g6, hF⟩ := zix_some hF
      refine z_iast (ws' := (zwX0 cI cJ cZ a0 (za (za (za U 0 (U 4 0) x1) 1 (U 4 0) x2) 2 (U 4 0) x3) L)) C g6 3 rfl rfl dX0_write_66 (za_row (za (za U 0 (U 4 0) x1) 1 (U 4 0) x2) 2 (U 4 0) x3) (zr_X0_2 cI cJ cZ a0 (za (za U 0 (U 4 0) x1) 1 (U 4 0) x2) L (U 4 0) x3) ?_
      refine z_aload_n C dX0_write_67 rfl 1 rfl ?_
      refine z_get (ref := "SecretBroker$Audit") (v := .ref (a0 4)) C hX0_write_X0 0 rfl rfl 3 (by decide) kX0_write_21 (fun _ h9 => h9) rfl dX0_write_68 ?_
      refine z_aload_n C dX0_write_71 rfl 1 rfl ?_
      refine z_get (ref := "SecretBroker$Audit") (v := .int (U 4 0)) C hX0_write_X0 0 rfl rfl 4 (by decide) kX0_write_25 (fun _ h9 => h9) rfl dX0_write_72 ?_
      refine z_ldc2 (v := 31) C kX0_write_31 dX0_write_75 ?_
      refine z_lload C dX0_write_78 0 rfl ?_
      refine z_lmul C dX0_write_80 ?_
      refine z_ldc2 (v := 7) C kX0_write_33 dX0_write_81 ?_
      refine z_iload_n C dX0_write_84 rfl 2 rfl ?_
      refine z_i2l C dX0_write_85 ?_
      refine z_lmul C dX0_write_86 ?_
      refine z_ladd C dX0_write_87 ?_
      refine z_ldc2 (v := 5) C kX0_write_35 dX0_write_88 ?_
      refine z_iload_n C dX0_write_91 rfl 3 rfl ?_
      refine z_i2l C dX0_write_92 ?_
      refine z_lmul C dX0_write_93 ?_
      refine z_ladd C dX0_write_94 ?_
      refine z_ldc2 (v := 3) C kX0_write_37 dX0_write_95 ?_
      refine z_iload_n C dX0_write_98 rfl 4 rfl ?_
      refine z_i2l C dX0_write_99 ?_
      refine z_lmul C dX0_write_100 ?_
      refine z_ladd C dX0_write_101 ?_
      refine z_iload C dX0_write_102 5 rfl ?_
      refine z_i2l C dX0_write_104 ?_
      refine z_ladd C dX0_write_105 ?_
      refine z_ldc2 (v := 1000003) C kX0_write_39 dX0_write_106 ?_
      refine z_lrem C dX0_write_109 (by decide) ?_
      obtain ⟨g7, hF⟩ := zix_some hF
      refine z_last (ws' := (zwX0 cI cJ cZ a0 (za (za (za U 0 (U 4 0) x1) 1 (U 4 0) x2) 2 (U 4 0) x3) (vp_updL L (U 4 0).toNatClampNeg ((((((31 * (L ((U 4 0) - 1).toNatClampNeg)) + (7 * ((x1).toInt64))) + (5 * ((x2).toInt64))) + (3 * ((x3).toInt64))) + ((x4).toInt64)) - (((((31 * (L ((U 4 0) - 1).toNatClampNeg)) + (7 * ((x1).toInt64))) + (5 * ((x2).toInt64))) + (3 * ((x3).toInt64))) + ((x4).toInt64)) / 1000003 * 1000003)))) C g7 4 rfl rfl dX0_write_110 (zr_X0_3 cI cJ cZ a0 (za (za (za U 0 (U 4 0) x1) 1 (U 4 0) x2) 2 (U 4 0) x3) L ((U 4 0).toNatClampNeg) ((((((31 * (L ((U 4 0) - 1).toNatClampNeg)) + (7 * ((x1).toInt64))) + (5 * ((x2).toInt64))) + (3 * ((x3).toInt64))) + ((x4).toInt64)) - (((((31 * (L ((U 4 0) - 1).toNatClampNeg)) + (7 * ((x1).toInt64))) + (5 * ((x2).toInt64))) + (3 * ((x3).toInt64))) + ((x4).toInt64)) / 1000003 * 1000003)) ?_
      refine z_aload_n C dX0_write_111 rfl 1 rfl ?_
      refine z_dup C dX0_write_112 rfl ?_
      refine z_get (ref := "SecretBroker$Audit") (v := .int (U 4 0)) C hX0_write_X0 0 rfl rfl 4 (by decide) kX0_write_25 (fun _ h9 => h9) rfl dX0_write_113 ?_
      refine z_iconst (v := 1) C dX0_write_116 (by decide) ?_
      refine z_iadd C dX0_write_117 ?_
      refine z_put (ws' := (zwX0 cI cJ cZ a0 (zs (za (za (za U 0 (U 4 0) x1) 1 (U 4 0) x2) 2 (U 4 0) x3) 4 ((U 4 0) + 1)) (vp_updL L (U 4 0).toNatClampNeg ((((((31 * (L ((U 4 0) - 1).toNatClampNeg)) + (7 * ((x1).toInt64))) + (5 * ((x2).toInt64))) + (3 * ((x3).toInt64))) + ((x4).toInt64)) - (((((31 * (L ((U 4 0) - 1).toNatClampNeg)) + (7 * ((x1).toInt64))) + (5 * ((x2).toInt64))) + (3 * ((x3).toInt64))) + ((x4).toInt64)) / 1000003 * 1000003)))) (ref := "SecretBroker$Audit") (ty := .int) C hX0_write_X0 tyX0 tyX0_ok nmX0 0 rfl rfl 4 (by decide) kX0_write_25 (fun _ h9 => h9) rfl (by decide +kernel) rfl rfl (Nat.le_of_ble_eq_true rfl) dX0_write_118 (zs_val (za (za (za U 0 (U 4 0) x1) 1 (U 4 0) x2) 2 (U 4 0) x3) 4 ((U 4 0) + 1)) (zf_X0_4 cI cJ cZ a0 (za (za (za U 0 (U 4 0) x1) 1 (U 4 0) x2) 2 (U 4 0) x3) (vp_updL L (U 4 0).toNatClampNeg ((((((31 * (L ((U 4 0) - 1).toNatClampNeg)) + (7 * ((x1).toInt64))) + (5 * ((x2).toInt64))) + (3 * ((x3).toInt64))) + ((x4).toInt64)) - (((((31 * (L ((U 4 0) - 1).toNatClampNeg)) + (7 * ((x1).toInt64))) + (5 * ((x2).toInt64))) + (3 * ((x3).toInt64))) + ((x4).toInt64)) / 1000003 * 1000003)) ((U 4 0) + 1)) ?_
      have hu := Option.some.inj hF
      subst hu
      exact z_vret C dX0_write_121 rfl
    · have hF := zif hF c2
      refine z_ldc2 (v := 17) C kX0_write_29 dX0_write_18 ?_
      refine z_goto (tgt := 35) C dX0_write_21 (by decide) ?_
      refine z_lstore (lv' := [(5, .long 17), (0, .ref (a0 0)), (1, .int x1), (2, .int x2), (3, .int x3), (4, .int x4)]) C dX0_write_35 (by decide) rfl ?_
      refine z_aload_n C dX0_write_37 rfl 1 rfl ?_
      refine z_get (ref := "SecretBroker$Audit") (v := .ref (a0 1)) C hX0_write_X0 0 rfl rfl 0 (by decide) kX0_write_9 (fun _ h9 => h9) rfl dX0_write_38 ?_
      refine z_aload_n C dX0_write_41 rfl 1 rfl ?_
      refine z_get (ref := "SecretBroker$Audit") (v := .int (U 4 0)) C hX0_write_X0 0 rfl rfl 4 (by decide) kX0_write_25 (fun _ h9 => h9) rfl dX0_write_42 ?_
      refine z_iload_n C dX0_write_45 rfl 2 rfl ?_
      obtain ⟨g8, hF⟩ := zix_some hF
      refine z_iast (ws' := (zwX0 cI cJ cZ a0 (za U 0 (U 4 0) x1) L)) C g8 1 rfl rfl dX0_write_46 (za_row U 0 (U 4 0) x1) (zr_X0_0 cI cJ cZ a0 U L (U 4 0) x1) ?_
      refine z_aload_n C dX0_write_47 rfl 1 rfl ?_
      refine z_get (ref := "SecretBroker$Audit") (v := .ref (a0 2)) C hX0_write_X0 0 rfl rfl 1 (by decide) kX0_write_15 (fun _ h9 => h9) rfl dX0_write_48 ?_
      refine z_aload_n C dX0_write_51 rfl 1 rfl ?_
      refine z_get (ref := "SecretBroker$Audit") (v := .int (U 4 0)) C hX0_write_X0 0 rfl rfl 4 (by decide) kX0_write_25 (fun _ h9 => h9) rfl dX0_write_52 ?_
      refine z_iload_n C dX0_write_55 rfl 3 rfl ?_
      obtain ⟨g9, hF⟩ := zix_some hF
      refine z_iast (ws' := (zwX0 cI cJ cZ a0 (za (za U 0 (U 4 0) x1) 1 (U 4 0) x2) L)) C g9 2 rfl rfl dX0_write_56 (za_row (za U 0 (U 4 0) x1) 1 (U 4 0) x2) (zr_X0_1 cI cJ cZ a0 (za U 0 (U 4 0) x1) L (U 4 0) x2) ?_
      refine z_aload_n C dX0_write_57 rfl 1 rfl ?_
      refine z_get (ref := "SecretBroker$Audit") (v := .ref (a0 3)) C hX0_write_X0 0 rfl rfl 2 (by decide) kX0_write_18 (fun _ h9 => h9) rfl dX0_write_58 ?_
      refine z_aload_n C dX0_write_61 rfl 1 rfl ?_
      refine z_get (ref := "SecretBroker$Audit") (v := .int (U 4 0)) C hX0_write_X0 0 rfl rfl 4 (by decide) kX0_write_25 (fun _ h9 => h9) rfl dX0_write_62 ?_
      refine z_iload_n C dX0_write_65 rfl 4 rfl ?_
      obtain ⟨g10, hF⟩ := zix_some hF
      refine z_iast (ws' := (zwX0 cI cJ cZ a0 (za (za (za U 0 (U 4 0) x1) 1 (U 4 0) x2) 2 (U 4 0) x3) L)) C g10 3 rfl rfl dX0_write_66 (za_row (za (za U 0 (U 4 0) x1) 1 (U 4 0) x2) 2 (U 4 0) x3) (zr_X0_2 cI cJ cZ a0 (za (za U 0 (U 4 0) x1) 1 (U 4 0) x2) L (U 4 0) x3) ?_
      refine z_aload_n C dX0_write_67 rfl 1 rfl ?_
      refine z_get (ref := "SecretBroker$Audit") (v := .ref (a0 4)) C hX0_write_X0 0 rfl rfl 3 (by decide) kX0_write_21 (fun _ h9 => h9) rfl dX0_write_68 ?_
      refine z_aload_n C dX0_write_71 rfl 1 rfl ?_
      refine z_get (ref := "SecretBroker$Audit") (v := .int (U 4 0)) C hX0_write_X0 0 rfl rfl 4 (by decide) kX0_write_25 (fun _ h9 => h9) rfl dX0_write_72 ?_
      refine z_ldc2 (v := 31) C kX0_write_31 dX0_write_75 ?_
      refine z_lload C dX0_write_78 0 rfl ?_
      refine z_lmul C dX0_write_80 ?_
      refine z_ldc2 (v := 7) C kX0_write_33 dX0_write_81 ?_
      refine z_iload_n C dX0_write_84 rfl 2 rfl ?_
      refine z_i2l C dX0_write_85 ?_
      refine z_lmul C dX0_write_86 ?_
      refine z_ladd C dX0_write_87 ?_
      refine z_ldc2 (v := 5) C kX0_write_35 dX0_write_88 ?_
      refine z_iload_n C dX0_write_91 rfl 3 rfl ?_
      refine z_i2l C dX0_write_92 ?_
      refine z_lmul C dX0_write_93 ?_
      refine z_ladd C dX0_write_94 ?_
      refine z_ldc2 (v := 3) C kX0_write_37 dX0_write_95 ?_
      refine z_iload_n C dX0_write_98 rfl 4 rfl ?_
      refine z_i2l C dX0_write_99 ?_
      refine z_lmul C dX0_write_100 ?_
      refine z_ladd C dX0_write_101 ?_
      refine z_iload C dX0_write_102 5 rfl ?_
      refine z_i2l C dX0_write_104 ?_
      refine z_ladd C dX0_write_105 ?_
      refine z_ldc2 (v := 1000003) C kX0_write_39 dX0_write_106 ?_
      refine z_lrem C dX0_write_109 (by decide) ?_
      obtain ⟨g11, hF⟩ := zix_some hF
      refine z_last (ws' := (zwX0 cI cJ cZ a0 (za (za (za U 0 (U 4 0) x1) 1 (U 4 0) x2) 2 (U 4 0) x3) (vp_updL L (U 4 0).toNatClampNeg ((((((31 * 17) + (7 * ((x1).toInt64))) + (5 * ((x2).toInt64))) + (3 * ((x3).toInt64))) + ((x4).toInt64)) - (((((31 * 17) + (7 * ((x1).toInt64))) + (5 * ((x2).toInt64))) + (3 * ((x3).toInt64))) + ((x4).toInt64)) / 1000003 * 1000003)))) C g11 4 rfl rfl dX0_write_110 (zr_X0_3 cI cJ cZ a0 (za (za (za U 0 (U 4 0) x1) 1 (U 4 0) x2) 2 (U 4 0) x3) L ((U 4 0).toNatClampNeg) ((((((31 * 17) + (7 * ((x1).toInt64))) + (5 * ((x2).toInt64))) + (3 * ((x3).toInt64))) + ((x4).toInt64)) - (((((31 * 17) + (7 * ((x1).toInt64))) + (5 * ((x2).toInt64))) + (3 * ((x3).toInt64))) + ((x4).toInt64)) / 1000003 * 1000003)) ?_
      refine z_aload_n C dX0_write_111 rfl 1 rfl ?_
      refine z_dup C dX0_write_112 rfl ?_
      refine z_get (ref := "SecretBroker$Audit") (v := .int (U 4 0)) C hX0_write_X0 0 rfl rfl 4 (by decide) kX0_write_25 (fun _ h9 => h9) rfl dX0_write_113 ?_
      refine z_iconst (v := 1) C dX0_write_116 (by decide) ?_
      refine z_iadd C dX0_write_117 ?_
      refine z_put (ws' := (zwX0 cI cJ cZ a0 (zs (za (za (za U 0 (U 4 0) x1) 1 (U 4 0) x2) 2 (U 4 0) x3) 4 ((U 4 0) + 1)) (vp_updL L (U 4 0).toNatClampNeg ((((((31 * 17) + (7 * ((x1).toInt64))) + (5 * ((x2).toInt64))) + (3 * ((x3).toInt64))) + ((x4).toInt64)) - (((((31 * 17) + (7 * ((x1).toInt64))) + (5 * ((x2).toInt64))) + (3 * ((x3).toInt64))) + ((x4).toInt64)) / 1000003 * 1000003)))) (ref := "SecretBroker$Audit") (ty := .int) C hX0_write_X0 tyX0 tyX0_ok nmX0 0 rfl rfl 4 (by decide) kX0_write_25 (fun _ h9 => h9) rfl (by decide +kernel) rfl rfl (Nat.le_of_ble_eq_true rfl) dX0_write_118 (zs_val (za (za (za U 0 (U 4 0) x1) 1 (U 4 0) x2) 2 (U 4 0) x3) 4 ((U 4 0) + 1)) (zf_X0_4 cI cJ cZ a0 (za (za (za U 0 (U 4 0) x1) 1 (U 4 0) x2) 2 (U 4 0) x3) (vp_updL L (U 4 0).toNatClampNeg ((((((31 * 17) + (7 * ((x1).toInt64))) + (5 * ((x2).toInt64))) + (3 * ((x3).toInt64))) + ((x4).toInt64)) - (((((31 * 17) + (7 * ((x1).toInt64))) + (5 * ((x2).toInt64))) + (3 * ((x3).toInt64))) + ((x4).toInt64)) / 1000003 * 1000003)) ((U 4 0) + 1)) ?_
      have hu := Option.some.inj hF
      subst hu
      exact z_vret C dX0_write_121 rfl
  · have hF := zelse hF c1
    have hu := Option.some.inj hF
    subst hu
    exact z_vret C dX0_write_10 rfl
theorem kX0_kindAt_9 : Cond.fieldLink RX0 9 "SecretBroker$Audit" "kinds" "[I" ∈ wsX0_kindAt := by decide +kernel
theorem hX0_kindAt_X0 : ∀ w ∈ wsX00, w ∈ wsX0_kindAt := by decide +kernel
set_option maxHeartbeats 4000000 in
set_option maxRecDepth 100000 in
theorem c_X0_kindAt (l : Launch) (D : va_G) (cI cJ cZ : ClassId) (a0 : Nat → Nat) (U : SS) (L : SL) (x1 : Int32) (u : Int32) (hF : f_X0_kindAt U x1 = some u) : zM l yX0_kindAt wsX0_kindAt ({ frames := 1, cells := 0, slots := 0, locals := 21 }) D (zTy cI cJ cZ) [.ref (a0 0), .int x1] (zwX0 cI cJ cZ a0 U L) (some (.int u)) (zwX0 cI cJ cZ a0 U L) := by
  refine z_body (cc := cX0_kindAt) (maxL := 2) (rty := (some .int)) (own := RX0) (lv := [(0, .ref (a0 0)), (1, .int x1)]) (by decide +kernel) rfl rfl (Nat.le_of_ble_eq_true rfl) rfl (fun p e s m args below meth c A C => ?_)
  refine z_aload_n C dX0_kindAt_0 rfl 0 rfl ?_
  refine z_iload_n C dX0_kindAt_1 rfl 1 rfl ?_
  obtain ⟨r1, er1, hF⟩ := zbd hF
  refine z_callV (n := 1) (As := [.int x1]) (ws' := (zwX0 cI cJ cZ a0 U L)) C (c_X0_has l D cI cJ cZ a0 U L x1 r1 er1) gX0_kindAt_X0_has rfl rfl rfl (by decide +kernel) ⟨Nat.le_of_ble_eq_true rfl, Nat.le_of_ble_eq_true rfl⟩ ⟨Nat.zero_le _, Nat.zero_le _⟩ 0 rfl rfl [] [] rfl rfl rfl rfl (Nat.le_of_ble_eq_true rfl) dX0_kindAt_2 ?_
  refine z_if_eq (tgt := 17) C dX0_kindAt_5 (by decide) (fun c2 => ?_) (fun c2 => ?_)
  · have hF := zif hF c2
    refine z_iconst (v := 0) C dX0_kindAt_17 (by decide) ?_
    have hu := Option.some.inj hF
    subst hu
    exact z_iret C dX0_kindAt_18 rfl rfl
  · have hF := zelse hF c2
    refine z_aload_n C dX0_kindAt_8 rfl 0 rfl ?_
    refine z_get (ref := "SecretBroker$Audit") (v := .ref (a0 1)) C hX0_kindAt_X0 0 rfl rfl 0 (by decide) kX0_kindAt_9 (fun _ h9 => h9) rfl dX0_kindAt_9 ?_
    refine z_iload_n C dX0_kindAt_12 rfl 1 rfl ?_
    obtain ⟨g3, hF⟩ := zix_some hF
    refine z_iald (v := ((U 0) x1.toNatClampNeg)) C g3 1 rfl rfl rfl dX0_kindAt_13 ?_
    refine z_goto (tgt := 18) C dX0_kindAt_14 (by decide) ?_
    have hu := Option.some.inj hF
    subst hu
    exact z_iret C dX0_kindAt_18 rfl rfl
theorem kX0_subjectAt_15 : Cond.fieldLink RX0 15 "SecretBroker$Audit" "subjects" "[I" ∈ wsX0_subjectAt := by decide +kernel
theorem hX0_subjectAt_X0 : ∀ w ∈ wsX00, w ∈ wsX0_subjectAt := by decide +kernel
set_option maxHeartbeats 4000000 in
set_option maxRecDepth 100000 in
theorem c_X0_subjectAt (l : Launch) (D : va_G) (cI cJ cZ : ClassId) (a0 : Nat → Nat) (U : SS) (L : SL) (x1 : Int32) (u : Int32) (hF : f_X0_subjectAt U x1 = some u) : zM l yX0_subjectAt wsX0_subjectAt ({ frames := 1, cells := 0, slots := 0, locals := 21 }) D (zTy cI cJ cZ) [.ref (a0 0), .int x1] (zwX0 cI cJ cZ a0 U L) (some (.int u)) (zwX0 cI cJ cZ a0 U L) := by
  refine z_body (cc := cX0_subjectAt) (maxL := 2) (rty := (some .int)) (own := RX0) (lv := [(0, .ref (a0 0)), (1, .int x1)]) (by decide +kernel) rfl rfl (Nat.le_of_ble_eq_true rfl) rfl (fun p e s m args below meth c A C => ?_)
  refine z_aload_n C dX0_subjectAt_0 rfl 0 rfl ?_
  refine z_iload_n C dX0_subjectAt_1 rfl 1 rfl ?_
  obtain ⟨r1, er1, hF⟩ := zbd hF
  refine z_callV (n := 1) (As := [.int x1]) (ws' := (zwX0 cI cJ cZ a0 U L)) C (c_X0_has l D cI cJ cZ a0 U L x1 r1 er1) gX0_subjectAt_X0_has rfl rfl rfl (by decide +kernel) ⟨Nat.le_of_ble_eq_true rfl, Nat.le_of_ble_eq_true rfl⟩ ⟨Nat.zero_le _, Nat.zero_le _⟩ 0 rfl rfl [] [] rfl rfl rfl rfl (Nat.le_of_ble_eq_true rfl) dX0_subjectAt_2 ?_
  refine z_if_eq (tgt := 17) C dX0_subjectAt_5 (by decide) (fun c2 => ?_) (fun c2 => ?_)
  · have hF := zif hF c2
    refine z_iconst (v := 0) C dX0_subjectAt_17 (by decide) ?_
    have hu := Option.some.inj hF
    subst hu
    exact z_iret C dX0_subjectAt_18 rfl rfl
  · have hF := zelse hF c2
    refine z_aload_n C dX0_subjectAt_8 rfl 0 rfl ?_
    refine z_get (ref := "SecretBroker$Audit") (v := .ref (a0 2)) C hX0_subjectAt_X0 0 rfl rfl 1 (by decide) kX0_subjectAt_15 (fun _ h9 => h9) rfl dX0_subjectAt_9 ?_
    refine z_iload_n C dX0_subjectAt_12 rfl 1 rfl ?_
    obtain ⟨g3, hF⟩ := zix_some hF
    refine z_iald (v := ((U 1) x1.toNatClampNeg)) C g3 2 rfl rfl rfl dX0_subjectAt_13 ?_
    refine z_goto (tgt := 18) C dX0_subjectAt_14 (by decide) ?_
    have hu := Option.some.inj hF
    subst hu
    exact z_iret C dX0_subjectAt_18 rfl rfl
theorem kX0_detailAt_18 : Cond.fieldLink RX0 18 "SecretBroker$Audit" "details" "[I" ∈ wsX0_detailAt := by decide +kernel
theorem hX0_detailAt_X0 : ∀ w ∈ wsX00, w ∈ wsX0_detailAt := by decide +kernel
set_option maxHeartbeats 4000000 in
set_option maxRecDepth 100000 in
theorem c_X0_detailAt (l : Launch) (D : va_G) (cI cJ cZ : ClassId) (a0 : Nat → Nat) (U : SS) (L : SL) (x1 : Int32) (u : Int32) (hF : f_X0_detailAt U x1 = some u) : zM l yX0_detailAt wsX0_detailAt ({ frames := 1, cells := 0, slots := 0, locals := 21 }) D (zTy cI cJ cZ) [.ref (a0 0), .int x1] (zwX0 cI cJ cZ a0 U L) (some (.int u)) (zwX0 cI cJ cZ a0 U L) := by
  refine z_body (cc := cX0_detailAt) (maxL := 2) (rty := (some .int)) (own := RX0) (lv := [(0, .ref (a0 0)), (1, .int x1)]) (by decide +kernel) rfl rfl (Nat.le_of_ble_eq_true rfl) rfl (fun p e s m args below meth c A C => ?_)
  refine z_aload_n C dX0_detailAt_0 rfl 0 rfl ?_
  refine z_iload_n C dX0_detailAt_1 rfl 1 rfl ?_
  obtain ⟨r1, er1, hF⟩ := zbd hF
  refine z_callV (n := 1) (As := [.int x1]) (ws' := (zwX0 cI cJ cZ a0 U L)) C (c_X0_has l D cI cJ cZ a0 U L x1 r1 er1) gX0_detailAt_X0_has rfl rfl rfl (by decide +kernel) ⟨Nat.le_of_ble_eq_true rfl, Nat.le_of_ble_eq_true rfl⟩ ⟨Nat.zero_le _, Nat.zero_le _⟩ 0 rfl rfl [] [] rfl rfl rfl rfl (Nat.le_of_ble_eq_true rfl) dX0_detailAt_2 ?_
  refine z_if_eq (tgt := 17) C dX0_detailAt_5 (by decide) (fun c2 => ?_) (fun c2 => ?_)
  · have hF := zif hF c2
    refine z_iconst (v := 0) C dX0_detailAt_17 (by decide) ?_
    have hu := Option.some.inj hF
    subst hu
    exact z_iret C dX0_detailAt_18 rfl rfl
  · have hF := zelse hF c2
    refine z_aload_n C dX0_detailAt_8 rfl 0 rfl ?_
    refine z_get (ref := "SecretBroker$Audit") (v := .ref (a0 3)) C hX0_detailAt_X0 0 rfl rfl 2 (by decide) kX0_detailAt_18 (fun _ h9 => h9) rfl dX0_detailAt_9 ?_
    refine z_iload_n C dX0_detailAt_12 rfl 1 rfl ?_
    obtain ⟨g3, hF⟩ := zix_some hF
    refine z_iald (v := ((U 2) x1.toNatClampNeg)) C g3 3 rfl rfl rfl dX0_detailAt_13 ?_
    refine z_goto (tgt := 18) C dX0_detailAt_14 (by decide) ?_
    have hu := Option.some.inj hF
    subst hu
    exact z_iret C dX0_detailAt_18 rfl rfl
theorem kX0_sumAt_21 : Cond.fieldLink RX0 21 "SecretBroker$Audit" "sums" "[J" ∈ wsX0_sumAt := by decide +kernel
theorem hX0_sumAt_X0 : ∀ w ∈ wsX00, w ∈ wsX0_sumAt := by decide +kernel
set_option maxHeartbeats 4000000 in
set_option maxRecDepth 100000 in
theorem c_X0_sumAt (l : Launch) (D : va_G) (cI cJ cZ : ClassId) (a0 : Nat → Nat) (U : SS) (L : SL) (x1 : Int32) (u : Int64) (hF : f_X0_sumAt U L x1 = some u) : zM l yX0_sumAt wsX0_sumAt ({ frames := 1, cells := 0, slots := 0, locals := 21 }) D (zTy cI cJ cZ) [.ref (a0 0), .int x1] (zwX0 cI cJ cZ a0 U L) (some (.long u)) (zwX0 cI cJ cZ a0 U L) := by
  refine z_body (cc := cX0_sumAt) (maxL := 2) (rty := (some .long)) (own := RX0) (lv := [(0, .ref (a0 0)), (1, .int x1)]) (by decide +kernel) rfl rfl (Nat.le_of_ble_eq_true rfl) rfl (fun p e s m args below meth c A C => ?_)
  refine z_aload_n C dX0_sumAt_0 rfl 0 rfl ?_
  refine z_iload_n C dX0_sumAt_1 rfl 1 rfl ?_
  obtain ⟨r1, er1, hF⟩ := zbd hF
  refine z_callV (n := 1) (As := [.int x1]) (ws' := (zwX0 cI cJ cZ a0 U L)) C (c_X0_has l D cI cJ cZ a0 U L x1 r1 er1) gX0_sumAt_X0_has rfl rfl rfl (by decide +kernel) ⟨Nat.le_of_ble_eq_true rfl, Nat.le_of_ble_eq_true rfl⟩ ⟨Nat.zero_le _, Nat.zero_le _⟩ 0 rfl rfl [] [] rfl rfl rfl rfl (Nat.le_of_ble_eq_true rfl) dX0_sumAt_2 ?_
  refine z_if_eq (tgt := 17) C dX0_sumAt_5 (by decide) (fun c2 => ?_) (fun c2 => ?_)
  · have hF := zif hF c2
    refine z_lconst (v := 0) C dX0_sumAt_17 (by decide) ?_
    have hu := Option.some.inj hF
    subst hu
    exact z_lret C dX0_sumAt_18 rfl
  · have hF := zelse hF c2
    refine z_aload_n C dX0_sumAt_8 rfl 0 rfl ?_
    refine z_get (ref := "SecretBroker$Audit") (v := .ref (a0 4)) C hX0_sumAt_X0 0 rfl rfl 3 (by decide) kX0_sumAt_21 (fun _ h9 => h9) rfl dX0_sumAt_9 ?_
    refine z_iload_n C dX0_sumAt_12 rfl 1 rfl ?_
    obtain ⟨g3, hF⟩ := zix_some hF
    refine z_lald (v := (L x1.toNatClampNeg)) C g3 4 rfl rfl rfl dX0_sumAt_13 ?_
    refine z_goto (tgt := 18) C dX0_sumAt_14 (by decide) ?_
    have hu := Option.some.inj hF
    subst hu
    exact z_lret C dX0_sumAt_18 rfl
theorem kX2_has_25 : Cond.fieldLink RX2 25 "SecretBroker$Leased" "made" "I" ∈ wsX2_has := by decide +kernel
theorem hX2_has_X1 : ∀ w ∈ wsX10, w ∈ wsX2_has := by decide +kernel
set_option maxHeartbeats 4000000 in
set_option maxRecDepth 100000 in
theorem c_X2_has_1 (l : Launch) (D : va_G) (cI cJ cZ : ClassId) (a1 : Nat → Nat) (K : SS) (x1 : Int32) (u : Int32) (hF : f_X2_has K x1 = some u) : zM l yX2_has wsX2_has ({ frames := 0, cells := 0, slots := 0, locals := 0 }) D (zTy cI cJ cZ) [.ref (a1 0), .int x1] (zwX1 cI cJ cZ a1 K) (some (.int u)) (zwX1 cI cJ cZ a1 K) := by
  refine z_body (cc := cX2_has) (maxL := 2) (rty := (some .boolean)) (own := RX2) (lv := [(0, .ref (a1 0)), (1, .int x1)]) (by decide +kernel) rfl rfl (Nat.le_of_ble_eq_true rfl) rfl (fun p e s m args below meth c A C => ?_)
  refine z_iload_n C dX2_has_0 rfl 1 rfl ?_
  refine z_if_lt (tgt := 16) C dX2_has_1 (by decide) (fun c1 => ?_) (fun c1 => ?_)
  · have hF := zif hF c1
    refine z_iconst (v := 0) C dX2_has_16 (by decide) ?_
    have hu := Option.some.inj hF
    subst hu
    exact z_iret C dX2_has_17 rfl z_b0
  · have hF := zelse hF c1
    refine z_iload_n C dX2_has_4 rfl 1 rfl ?_
    refine z_aload_n C dX2_has_5 rfl 0 rfl ?_
    refine z_get (ref := "SecretBroker$Leased") (v := .int (K 4 0)) C hX2_has_X1 0 rfl rfl 4 (by decide) kX2_has_25 (fun _ h9 => h9) rfl dX2_has_6 ?_
    refine z_icmp_ge (tgt := 16) C dX2_has_9 (by decide) (fun c2 => ?_) (fun c2 => ?_)
    · have hF := zif hF c2
      refine z_iconst (v := 0) C dX2_has_16 (by decide) ?_
      have hu := Option.some.inj hF
      subst hu
      exact z_iret C dX2_has_17 rfl z_b0
    · have hF := zelse hF c2
      refine z_iconst (v := 1) C dX2_has_12 (by decide) ?_
      refine z_goto (tgt := 17) C dX2_has_13 (by decide) ?_
      have hu := Option.some.inj hF
      subst hu
      exact z_iret C dX2_has_17 rfl z_b1
theorem kX1_describe_9 : Cond.fieldLink RX1 9 "SecretBroker$Credentials" "owners" "[I" ∈ wsX1_describe := by decide +kernel
theorem kX1_describe_15 : Cond.fieldLink RX1 15 "SecretBroker$Credentials" "paths" "[I" ∈ wsX1_describe := by decide +kernel
theorem hX1_describe_X1 : ∀ w ∈ wsX10, w ∈ wsX1_describe := by decide +kernel
set_option maxHeartbeats 4000000 in
set_option maxRecDepth 100000 in
theorem c_X1_describe (l : Launch) (D : va_G) (cI cJ cZ : ClassId) (a1 : Nat → Nat) (K : SS) (x1 : Int32) (x2 : Int32) (x3 : Int32) (u : SS) (hF : f_X1_describe K x1 x2 x3 = some u) : zM l yX1_describe wsX1_describe ({ frames := 1, cells := 0, slots := 0, locals := 21 }) D (zTy cI cJ cZ) [.ref (a1 0), .int x1, .int x2, .int x3] (zwX1 cI cJ cZ a1 K) none (zwX1 cI cJ cZ a1 u) := by
  refine z_body (cc := cX1_describe) (maxL := 4) (rty := none) (own := RX1) (lv := [(0, .ref (a1 0)), (1, .int x1), (2, .int x2), (3, .int x3)]) (by decide +kernel) rfl rfl (Nat.le_of_ble_eq_true rfl) rfl (fun p e s m args below meth c A C => ?_)
  refine z_aload_n C dX1_describe_0 rfl 0 rfl ?_
  refine z_iload_n C dX1_describe_1 rfl 1 rfl ?_
  obtain ⟨r1, er1, hF⟩ := zbd hF
  refine z_callU (n := 1) (As := [.int x1]) (ws' := (zwX1 cI cJ cZ a1 K)) C (c_X2_has_1 l D cI cJ cZ a1 K x1 r1 er1) gX1_describe_X2_has_u18X1 rfl rfl rfl rfl (by decide +kernel) ⟨Nat.le_of_ble_eq_true rfl, Nat.le_of_ble_eq_true rfl⟩ ⟨Nat.zero_le _, Nat.zero_le _⟩ 0 rfl rfl [] [] rfl rfl rfl rfl (Nat.le_of_ble_eq_true rfl) dX1_describe_2 ?_
  refine z_if_eq (tgt := 22) C dX1_describe_5 (by decide) (fun c2 => ?_) (fun c2 => ?_)
  · have hF := zif hF c2
    have hu := Option.some.inj hF
    subst hu
    exact z_vret C dX1_describe_22 rfl
  · have hF := zelse hF c2
    refine z_aload_n C dX1_describe_8 rfl 0 rfl ?_
    refine z_get (ref := "SecretBroker$Credentials") (v := .ref (a1 5)) C hX1_describe_X1 0 rfl rfl 6 (by decide) kX1_describe_9 (fun _ h9 => h9) rfl dX1_describe_9 ?_
    refine z_iload_n C dX1_describe_12 rfl 1 rfl ?_
    refine z_iload_n C dX1_describe_13 rfl 2 rfl ?_
    obtain ⟨g3, hF⟩ := zix_some hF
    refine z_iast (ws' := (zwX1 cI cJ cZ a1 (za K 6 x1 x2))) C g3 5 rfl rfl dX1_describe_14 (za_row K 6 x1 x2) (zr_X1_6 cI cJ cZ a1 K x1 x2) ?_
    refine z_aload_n C dX1_describe_15 rfl 0 rfl ?_
    refine z_get (ref := "SecretBroker$Credentials") (v := .ref (a1 6)) C hX1_describe_X1 0 rfl rfl 7 (by decide) kX1_describe_15 (fun _ h9 => h9) rfl dX1_describe_16 ?_
    refine z_iload_n C dX1_describe_19 rfl 1 rfl ?_
    refine z_iload_n C dX1_describe_20 rfl 3 rfl ?_
    obtain ⟨g4, hF⟩ := zix_some hF
    refine z_iast (ws' := (zwX1 cI cJ cZ a1 (za (za K 6 x1 x2) 7 x1 x3))) C g4 6 rfl rfl dX1_describe_21 (za_row (za K 6 x1 x2) 7 x1 x3) (zr_X1_7 cI cJ cZ a1 (za K 6 x1 x2) x1 x3) ?_
    have hu := Option.some.inj hF
    subst hu
    exact z_vret C dX1_describe_22 rfl
theorem kX1_ownerAt_9 : Cond.fieldLink RX1 9 "SecretBroker$Credentials" "owners" "[I" ∈ wsX1_ownerAt := by decide +kernel
theorem hX1_ownerAt_X1 : ∀ w ∈ wsX10, w ∈ wsX1_ownerAt := by decide +kernel
set_option maxHeartbeats 4000000 in
set_option maxRecDepth 100000 in
theorem c_X1_ownerAt (l : Launch) (D : va_G) (cI cJ cZ : ClassId) (a1 : Nat → Nat) (K : SS) (x1 : Int32) (u : Int32) (hF : f_X1_ownerAt K x1 = some u) : zM l yX1_ownerAt wsX1_ownerAt ({ frames := 1, cells := 0, slots := 0, locals := 21 }) D (zTy cI cJ cZ) [.ref (a1 0), .int x1] (zwX1 cI cJ cZ a1 K) (some (.int u)) (zwX1 cI cJ cZ a1 K) := by
  refine z_body (cc := cX1_ownerAt) (maxL := 2) (rty := (some .int)) (own := RX1) (lv := [(0, .ref (a1 0)), (1, .int x1)]) (by decide +kernel) rfl rfl (Nat.le_of_ble_eq_true rfl) rfl (fun p e s m args below meth c A C => ?_)
  refine z_aload_n C dX1_ownerAt_0 rfl 0 rfl ?_
  refine z_iload_n C dX1_ownerAt_1 rfl 1 rfl ?_
  obtain ⟨r1, er1, hF⟩ := zbd hF
  refine z_callU (n := 1) (As := [.int x1]) (ws' := (zwX1 cI cJ cZ a1 K)) C (c_X2_has_1 l D cI cJ cZ a1 K x1 r1 er1) gX1_ownerAt_X2_has_u18X1 rfl rfl rfl rfl (by decide +kernel) ⟨Nat.le_of_ble_eq_true rfl, Nat.le_of_ble_eq_true rfl⟩ ⟨Nat.zero_le _, Nat.zero_le _⟩ 0 rfl rfl [] [] rfl rfl rfl rfl (Nat.le_of_ble_eq_true rfl) dX1_ownerAt_2 ?_
  refine z_if_eq (tgt := 17) C dX1_ownerAt_5 (by decide) (fun c2 => ?_) (fun c2 => ?_)
  · have hF := zif hF c2
    refine z_iconst (v := (-1)) C dX1_ownerAt_17 (by decide) ?_
    have hu := Option.some.inj hF
    subst hu
    exact z_iret C dX1_ownerAt_18 rfl rfl
  · have hF := zelse hF c2
    refine z_aload_n C dX1_ownerAt_8 rfl 0 rfl ?_
    refine z_get (ref := "SecretBroker$Credentials") (v := .ref (a1 5)) C hX1_ownerAt_X1 0 rfl rfl 6 (by decide) kX1_ownerAt_9 (fun _ h9 => h9) rfl dX1_ownerAt_9 ?_
    refine z_iload_n C dX1_ownerAt_12 rfl 1 rfl ?_
    obtain ⟨g3, hF⟩ := zix_some hF
    refine z_iald (v := ((K 6) x1.toNatClampNeg)) C g3 5 rfl rfl rfl dX1_ownerAt_13 ?_
    refine z_goto (tgt := 18) C dX1_ownerAt_14 (by decide) ?_
    have hu := Option.some.inj hF
    subst hu
    exact z_iret C dX1_ownerAt_18 rfl rfl
theorem kX2_made_25 : Cond.fieldLink RX2 25 "SecretBroker$Leased" "made" "I" ∈ wsX2_made := by decide +kernel
theorem hX2_made_X1 : ∀ w ∈ wsX10, w ∈ wsX2_made := by decide +kernel
set_option maxHeartbeats 4000000 in
set_option maxRecDepth 100000 in
theorem c_X2_made_1 (l : Launch) (D : va_G) (cI cJ cZ : ClassId) (a1 : Nat → Nat) (K : SS) (u : Int32) (hF : f_X2_made K = some u) : zM l yX2_made wsX2_made ({ frames := 0, cells := 0, slots := 0, locals := 0 }) D (zTy cI cJ cZ) [.ref (a1 0)] (zwX1 cI cJ cZ a1 K) (some (.int u)) (zwX1 cI cJ cZ a1 K) := by
  refine z_body (cc := cX2_made) (maxL := 1) (rty := (some .int)) (own := RX2) (lv := [(0, .ref (a1 0))]) (by decide +kernel) rfl rfl (Nat.le_of_ble_eq_true rfl) rfl (fun p e s m args below meth c A C => ?_)
  refine z_aload_n C dX2_made_0 rfl 0 rfl ?_
  refine z_get (ref := "SecretBroker$Leased") (v := .int (K 4 0)) C hX2_made_X1 0 rfl rfl 4 (by decide) kX2_made_25 (fun _ h9 => h9) rfl dX2_made_1 ?_
  have hu := Option.some.inj hF
  subst hu
  exact z_iret C dX2_made_4 rfl rfl
theorem kX2_isOn_21 : Cond.fieldLink RX2 21 "SecretBroker$Leased" "on" "[Z" ∈ wsX2_isOn := by decide +kernel
theorem hX2_isOn_X1 : ∀ w ∈ wsX10, w ∈ wsX2_isOn := by decide +kernel
set_option maxHeartbeats 4000000 in
set_option maxRecDepth 100000 in
theorem c_X2_isOn_1 (l : Launch) (D : va_G) (cI cJ cZ : ClassId) (a1 : Nat → Nat) (K : SS) (x1 : Int32) (u : Int32) (hF : f_X2_isOn K x1 = some u) : zM l yX2_isOn wsX2_isOn ({ frames := 1, cells := 0, slots := 0, locals := 21 }) D (zTy cI cJ cZ) [.ref (a1 0), .int x1] (zwX1 cI cJ cZ a1 K) (some (.int u)) (zwX1 cI cJ cZ a1 K) := by
  refine z_body (cc := cX2_isOn) (maxL := 2) (rty := (some .boolean)) (own := RX2) (lv := [(0, .ref (a1 0)), (1, .int x1)]) (by decide +kernel) rfl rfl (Nat.le_of_ble_eq_true rfl) rfl (fun p e s m args below meth c A C => ?_)
  refine z_aload_n C dX2_isOn_0 rfl 0 rfl ?_
  refine z_iload_n C dX2_isOn_1 rfl 1 rfl ?_
  obtain ⟨r1, er1, hF⟩ := zbd hF
  refine z_callU (n := 1) (As := [.int x1]) (ws' := (zwX1 cI cJ cZ a1 K)) C (c_X2_has_1 l D cI cJ cZ a1 K x1 r1 er1) gX2_isOn_X2_has_u32X1 rfl rfl rfl rfl (by decide +kernel) ⟨Nat.le_of_ble_eq_true rfl, Nat.le_of_ble_eq_true rfl⟩ ⟨Nat.zero_le _, Nat.zero_le _⟩ 0 rfl rfl [] [] rfl rfl rfl rfl (Nat.le_of_ble_eq_true rfl) dX2_isOn_2 ?_
  refine z_if_eq (tgt := 21) C dX2_isOn_5 (by decide) (fun c2 => ?_) (fun c2 => ?_)
  · have hF := zif hF c2
    refine z_iconst (v := 0) C dX2_isOn_21 (by decide) ?_
    have hu := Option.some.inj hF
    subst hu
    exact z_iret C dX2_isOn_22 rfl z_b0
  · have hF := zelse hF c2
    refine z_aload_n C dX2_isOn_8 rfl 0 rfl ?_
    refine z_get (ref := "SecretBroker$Leased") (v := .ref (a1 4)) C hX2_isOn_X1 0 rfl rfl 3 (by decide) kX2_isOn_21 (fun _ h9 => h9) rfl dX2_isOn_9 ?_
    refine z_iload_n C dX2_isOn_12 rfl 1 rfl ?_
    obtain ⟨g3, hF⟩ := zix_some hF
    refine z_zald (v := ((K 3) x1.toNatClampNeg)) C g3 4 rfl rfl rfl dX2_isOn_13 ?_
    refine z_if_eq (tgt := 21) C dX2_isOn_14 (by decide) (fun c4 => ?_) (fun c4 => ?_)
    · have hF := zif hF c4
      refine z_iconst (v := 0) C dX2_isOn_21 (by decide) ?_
      have hu := Option.some.inj hF
      subst hu
      exact z_iret C dX2_isOn_22 rfl z_b0
    · have hF := zelse hF c4
      refine z_iconst (v := 1) C dX2_isOn_17 (by decide) ?_
      refine z_goto (tgt := 22) C dX2_isOn_18 (by decide) ?_
      have hu := Option.some.inj hF
      subst hu
      exact z_iret C dX2_isOn_22 rfl z_b1
theorem kX1_livingOf_9 : Cond.fieldLink RX1 9 "SecretBroker$Credentials" "owners" "[I" ∈ wsX1_livingOf := by decide +kernel
theorem hX1_livingOf_X1 : ∀ w ∈ wsX10, w ∈ wsX1_livingOf := by decide +kernel
set_option maxHeartbeats 4000000 in
set_option maxRecDepth 100000 in
theorem c_X1_livingOf_j4 (l : Launch) (D : va_G) (cI cJ cZ : ClassId) (a1 : Nat → Nat) (K : SS) (u : Int32) {p : Program} {e : Env} {s : State} {m : MethodId} {args : Array Value} {below : List Frame} {meth : Method} {c : Code} {A : Nat → Prop} (C : zC p s m args meth c cX1_livingOf 4 (some .int) RX1 wsX1_livingOf D (zTy cI cJ cZ) A s.heap) : ∀ (n : Nat) (v1 : Int32) (v2 : Int32) (v3 : Int32), f_X1_livingOf_4 K n v1 v2 v3 = some u → zW p l e { frames := 2, cells := 0, slots := 0, locals := 42 } s m args below meth c 4 D A s.heap 0 0 (MQ below (zQ D (zTy cI cJ cZ) (some (.int u)) (zwX1 cI cJ cZ a1 K) A) args s 0 0 A) (zwX1 cI cJ cZ a1 K) [(0, .ref (a1 0)), (1, .int v1), (2, .int v2), (3, .int v3)] 4 [] := by
  intro n
  induction n with
  | zero => intro v1 v2 v3 hF; exact absurd (show none = some u from hF) (fun q => nomatch q)
  | succ n ih =>
    intro v1 v2 v3 hF
    refine z_iload_n C dX1_livingOf_4 rfl 3 rfl ?_
    refine z_aload_n C dX1_livingOf_5 rfl 0 rfl ?_
    obtain ⟨r1, er1, hF⟩ := zbd hF
    refine z_callU (n := 0) (As := []) (ws' := (zwX1 cI cJ cZ a1 K)) C (c_X2_made_1 l D cI cJ cZ a1 K r1 er1) gX1_livingOf_X2_made_u22X1 rfl rfl rfl rfl (by decide +kernel) ⟨Nat.le_of_ble_eq_true rfl, Nat.le_of_ble_eq_true rfl⟩ ⟨Nat.zero_le _, Nat.zero_le _⟩ 0 rfl rfl [] [] rfl rfl rfl rfl (Nat.le_of_ble_eq_true rfl) dX1_livingOf_6 ?_
    refine z_icmp_ge (tgt := 39) C dX1_livingOf_9 (by decide) (fun c2 => ?_) (fun c2 => ?_)
    · have hF := zif hF c2
      refine z_iload_n C dX1_livingOf_39 rfl 2 rfl ?_
      have hu := Option.some.inj hF
      subst hu
      exact z_iret C dX1_livingOf_40 rfl rfl
    · have hF := zelse hF c2
      refine z_aload_n C dX1_livingOf_12 rfl 0 rfl ?_
      refine z_get (ref := "SecretBroker$Credentials") (v := .ref (a1 5)) C hX1_livingOf_X1 0 rfl rfl 6 (by decide) kX1_livingOf_9 (fun _ h9 => h9) rfl dX1_livingOf_13 ?_
      refine z_iload_n C dX1_livingOf_16 rfl 3 rfl ?_
      obtain ⟨g3, hF⟩ := zix_some hF
      refine z_iald (v := ((K 6) v3.toNatClampNeg)) C g3 5 rfl rfl rfl dX1_livingOf_17 ?_
      refine z_iload_n C dX1_livingOf_18 rfl 1 rfl ?_
      refine z_icmp_ne (tgt := 33) C dX1_livingOf_19 (by decide) (fun c4 => ?_) (fun c4 => ?_)
      · have hF := zelse hF c4
        refine z_iinc (v := (v3 + 1)) (lv' := [(3, .int (v3 + 1)), (0, .ref (a1 0)), (1, .int v1), (2, .int v2)]) C dX1_livingOf_33 3 rfl rfl (by decide) rfl ?_
        refine z_goto (tgt := 4) C dX1_livingOf_36 (by decide) ?_
        exact z_sub C [1, 2, 3, 0] rfl (ih v1 v2 (v3 + 1) hF)
      · have hF := zif hF c4
        refine z_aload_n C dX1_livingOf_22 rfl 0 rfl ?_
        refine z_iload_n C dX1_livingOf_23 rfl 3 rfl ?_
        obtain ⟨r5, er5, hF⟩ := zbd hF
        refine z_callU (n := 1) (As := [.int v3]) (ws' := (zwX1 cI cJ cZ a1 K)) C (c_X2_isOn_1 l D cI cJ cZ a1 K v3 r5 er5) gX1_livingOf_X2_isOn_u26X1 rfl rfl rfl rfl (by decide +kernel) ⟨Nat.le_of_ble_eq_true rfl, Nat.le_of_ble_eq_true rfl⟩ ⟨Nat.zero_le _, Nat.zero_le _⟩ 0 rfl rfl [] [] rfl rfl rfl rfl (Nat.le_of_ble_eq_true rfl) dX1_livingOf_24 ?_
        refine z_if_eq (tgt := 33) C dX1_livingOf_27 (by decide) (fun c6 => ?_) (fun c6 => ?_)
        · have hF := zif hF c6
          refine z_iinc (v := (v3 + 1)) (lv' := [(3, .int (v3 + 1)), (0, .ref (a1 0)), (1, .int v1), (2, .int v2)]) C dX1_livingOf_33 3 rfl rfl (by decide) rfl ?_
          refine z_goto (tgt := 4) C dX1_livingOf_36 (by decide) ?_
          exact z_sub C [1, 2, 3, 0] rfl (ih v1 v2 (v3 + 1) hF)
        · have hF := zelse hF c6
          refine z_iinc (v := (v2 + 1)) (lv' := [(2, .int (v2 + 1)), (0, .ref (a1 0)), (1, .int v1), (3, .int v3)]) C dX1_livingOf_30 2 rfl rfl (by decide) rfl ?_
          refine z_iinc (v := (v3 + 1)) (lv' := [(3, .int (v3 + 1)), (2, .int (v2 + 1)), (0, .ref (a1 0)), (1, .int v1)]) C dX1_livingOf_33 3 rfl rfl (by decide) rfl ?_
          refine z_goto (tgt := 4) C dX1_livingOf_36 (by decide) ?_
          exact z_sub C [2, 3, 1, 0] rfl (ih v1 (v2 + 1) (v3 + 1) hF)
set_option maxHeartbeats 4000000 in
set_option maxRecDepth 100000 in
theorem c_X1_livingOf (l : Launch) (D : va_G) (cI cJ cZ : ClassId) (a1 : Nat → Nat) (K : SS) (x1 : Int32) (u : Int32) (hF : f_X1_livingOf K x1 = some u) : zM l yX1_livingOf wsX1_livingOf ({ frames := 2, cells := 0, slots := 0, locals := 42 }) D (zTy cI cJ cZ) [.ref (a1 0), .int x1] (zwX1 cI cJ cZ a1 K) (some (.int u)) (zwX1 cI cJ cZ a1 K) := by
  refine z_body (cc := cX1_livingOf) (maxL := 4) (rty := (some .int)) (own := RX1) (lv := [(0, .ref (a1 0)), (1, .int x1)]) (by decide +kernel) rfl rfl (Nat.le_of_ble_eq_true rfl) rfl (fun p e s m args below meth c A C => ?_)
  refine z_iconst (v := 0) C dX1_livingOf_0 (by decide) ?_
  refine z_istore_n (lv' := [(2, .int 0), (0, .ref (a1 0)), (1, .int x1)]) C dX1_livingOf_1 rfl (by decide) rfl ?_
  refine z_iconst (v := 0) C dX1_livingOf_2 (by decide) ?_
  refine z_istore_n (lv' := [(3, .int 0), (2, .int 0), (0, .ref (a1 0)), (1, .int x1)]) C dX1_livingOf_3 rfl (by decide) rfl ?_
  exact z_sub C [2, 3, 1, 0] rfl (c_X1_livingOf_j4 l D cI cJ cZ a1 K u C 600 x1 0 0 hF)
set_option maxHeartbeats 4000000 in
set_option maxRecDepth 100000 in
theorem c_X4_length_j6 (l : Launch) (D : va_G) (cI cJ cZ : ClassId) (u : Int32) {p : Program} {e : Env} {s : State} {m : MethodId} {args : Array Value} {below : List Frame} {meth : Method} {c : Code} {A : Nat → Prop} (C : zC p s m args meth c cX4_length 4 (some .int) RX4 wsX4_length D (zTy cI cJ cZ) A s.heap) : ∀ (n : Nat) (v1 : Int32) (v2 : Int32) (v3 : Int32), f_X4_length_6 n v1 v2 v3 = some u → zW p l e { frames := 0, cells := 0, slots := 0, locals := 0 } s m args below meth c 4 D A s.heap 0 0 (MQ below (zQ D (zTy cI cJ cZ) (some (.int u)) [] A) args s 0 0 A) [] [(1, .int v1), (2, .int v2), (3, .int v3)] 6 [] := by
  intro n
  induction n with
  | zero => intro v1 v2 v3 hF; exact absurd (show none = some u from hF) (fun q => nomatch q)
  | succ n ih =>
    intro v1 v2 v3 hF
    refine z_iload_n C dX4_length_6 rfl 2 rfl ?_
    refine z_bipush (v := 6) C dX4_length_7 (by decide) ?_
    refine z_icmp_ge (tgt := 30) C dX4_length_9 (by decide) (fun c1 => ?_) (fun c1 => ?_)
    · have hF := zif hF c1
      refine z_iload_n C dX4_length_30 rfl 0 rfl ?_
      have hu := Option.some.inj hF
      subst hu
      exact z_iret C dX4_length_31 rfl rfl
    · have hF := zelse hF c1
      refine z_iload_n C dX4_length_12 rfl 1 rfl ?_
      refine z_if_le (tgt := 30) C dX4_length_13 (by decide) (fun c2 => ?_) (fun c2 => ?_)
      · have hF := zif hF c2
        refine z_iload_n C dX4_length_30 rfl 0 rfl ?_
        have hu := Option.some.inj hF
        subst hu
        exact z_iret C dX4_length_31 rfl rfl
      · have hF := zelse hF c2
        refine z_iinc (v := (v1 + 1)) (lv' := [(1, .int (v1 + 1)), (2, .int v2), (3, .int v3)]) C dX4_length_16 0 rfl rfl (by decide) rfl ?_
        refine z_iload_n C dX4_length_19 rfl 1 rfl ?_
        refine z_bipush (v := 10) C dX4_length_20 (by decide) ?_
        refine z_idiv C dX4_length_22 (by decide) ?_
        refine z_istore_n (lv' := [(2, .int (v2 / 10)), (1, .int (v1 + 1)), (3, .int v3)]) C dX4_length_23 rfl (by decide) rfl ?_
        refine z_iinc (v := (v3 + 1)) (lv' := [(3, .int (v3 + 1)), (2, .int (v2 / 10)), (1, .int (v1 + 1))]) C dX4_length_24 2 rfl rfl (by decide) rfl ?_
        refine z_goto (tgt := 6) C dX4_length_27 (by decide) ?_
        exact z_sub C [2, 1, 0] rfl (ih (v1 + 1) (v2 / 10) (v3 + 1) hF)
set_option maxHeartbeats 4000000 in
set_option maxRecDepth 100000 in
theorem c_X4_length (l : Launch) (D : va_G) (cI cJ cZ : ClassId) (x1 : Int32) (u : Int32) (hF : f_X4_length x1 = some u) : zM l yX4_length wsX4_length ({ frames := 0, cells := 0, slots := 0, locals := 0 }) D (zTy cI cJ cZ) [.int x1] [] (some (.int u)) [] := by
  refine z_body (cc := cX4_length) (maxL := 4) (rty := (some .int)) (own := RX4) (lv := [(0, .int x1)]) (by decide +kernel) rfl rfl (Nat.le_of_ble_eq_true rfl) rfl (fun p e s m args below meth c A C => ?_)
  refine z_iconst (v := 0) C dX4_length_0 (by decide) ?_
  refine z_istore_n (lv' := [(1, .int 0), (0, .int x1)]) C dX4_length_1 rfl (by decide) rfl ?_
  refine z_iload_n C dX4_length_2 rfl 1 rfl ?_
  refine z_istore_n (lv' := [(2, .int x1), (1, .int 0), (0, .int x1)]) C dX4_length_3 rfl (by decide) rfl ?_
  refine z_iconst (v := 0) C dX4_length_4 (by decide) ?_
  refine z_istore_n (lv' := [(3, .int 0), (2, .int x1), (1, .int 0), (0, .int x1)]) C dX4_length_5 rfl (by decide) rfl ?_
  exact z_sub C [2, 1, 0] rfl (c_X4_length_j6 l D cI cJ cZ u C 600 0 x1 0 hF)
set_option maxHeartbeats 4000000 in
set_option maxRecDepth 100000 in
theorem c_X4_withoutLast_j4 (l : Launch) (D : va_G) (cI cJ cZ : ClassId) (u : Int32) {p : Program} {e : Env} {s : State} {m : MethodId} {args : Array Value} {below : List Frame} {meth : Method} {c : Code} {A : Nat → Prop} (C : zC p s m args meth c cX4_withoutLast 4 (some .int) RX4 wsX4_withoutLast D (zTy cI cJ cZ) A s.heap) : ∀ (n : Nat) (v1 : Int32) (v2 : Int32) (v3 : Int32), f_X4_withoutLast_4 n v1 v2 v3 = some u → zW p l e { frames := 0, cells := 0, slots := 0, locals := 0 } s m args below meth c 4 D A s.heap 0 0 (MQ below (zQ D (zTy cI cJ cZ) (some (.int u)) [] A) args s 0 0 A) [] [(1, .int v1), (2, .int v2), (3, .int v3)] 4 [] := by
  intro n
  induction n with
  | zero => intro v1 v2 v3 hF; exact absurd (show none = some u from hF) (fun q => nomatch q)
  | succ n ih =>
    intro v1 v2 v3 hF
    refine z_iload_n C dX4_withoutLast_4 rfl 2 rfl ?_
    refine z_iload_n C dX4_withoutLast_5 rfl 0 rfl ?_
    refine z_icmp_ge (tgt := 20) C dX4_withoutLast_6 (by decide) (fun c1 => ?_) (fun c1 => ?_)
    · have hF := zif hF c1
      refine z_iload_n C dX4_withoutLast_20 rfl 1 rfl ?_
      have hu := Option.some.inj hF
      subst hu
      exact z_iret C dX4_withoutLast_21 rfl rfl
    · have hF := zelse hF c1
      refine z_iload_n C dX4_withoutLast_9 rfl 1 rfl ?_
      refine z_bipush (v := 10) C dX4_withoutLast_10 (by decide) ?_
      refine z_idiv C dX4_withoutLast_12 (by decide) ?_
      refine z_istore_n (lv' := [(2, .int (v2 / 10)), (1, .int v1), (3, .int v3)]) C dX4_withoutLast_13 rfl (by decide) rfl ?_
      refine z_iinc (v := (v3 + 1)) (lv' := [(3, .int (v3 + 1)), (2, .int (v2 / 10)), (1, .int v1)]) C dX4_withoutLast_14 2 rfl rfl (by decide) rfl ?_
      refine z_goto (tgt := 4) C dX4_withoutLast_17 (by decide) ?_
      exact z_sub C [2, 1, 0] rfl (ih v1 (v2 / 10) (v3 + 1) hF)
set_option maxHeartbeats 4000000 in
set_option maxRecDepth 100000 in
theorem c_X4_withoutLast (l : Launch) (D : va_G) (cI cJ cZ : ClassId) (x1 : Int32) (x2 : Int32) (u : Int32) (hF : f_X4_withoutLast x1 x2 = some u) : zM l yX4_withoutLast wsX4_withoutLast ({ frames := 0, cells := 0, slots := 0, locals := 0 }) D (zTy cI cJ cZ) [.int x1, .int x2] [] (some (.int u)) [] := by
  refine z_body (cc := cX4_withoutLast) (maxL := 4) (rty := (some .int)) (own := RX4) (lv := [(0, .int x1), (1, .int x2)]) (by decide +kernel) rfl rfl (Nat.le_of_ble_eq_true rfl) rfl (fun p e s m args below meth c A C => ?_)
  refine z_iload_n C dX4_withoutLast_0 rfl 0 rfl ?_
  refine z_istore_n (lv' := [(2, .int x1), (0, .int x1), (1, .int x2)]) C dX4_withoutLast_1 rfl (by decide) rfl ?_
  refine z_iconst (v := 0) C dX4_withoutLast_2 (by decide) ?_
  refine z_istore_n (lv' := [(3, .int 0), (2, .int x1), (0, .int x1), (1, .int x2)]) C dX4_withoutLast_3 rfl (by decide) rfl ?_
  exact z_sub C [3, 1, 0] rfl (c_X4_withoutLast_j4 l D cI cJ cZ u C 600 x2 x1 0 hF)
set_option maxHeartbeats 4000000 in
set_option maxRecDepth 100000 in
theorem c_X4_isBelow (l : Launch) (D : va_G) (cI cJ cZ : ClassId) (x1 : Int32) (x2 : Int32) (u : Int32) (hF : f_X4_isBelow x1 x2 = some u) : zM l yX4_isBelow wsX4_isBelow ({ frames := 1, cells := 0, slots := 0, locals := 23 }) D (zTy cI cJ cZ) [.int x1, .int x2] [] (some (.int u)) [] := by
  refine z_body (cc := cX4_isBelow) (maxL := 3) (rty := (some .boolean)) (own := RX4) (lv := [(0, .int x1), (1, .int x2)]) (by decide +kernel) rfl rfl (Nat.le_of_ble_eq_true rfl) rfl (fun p e s m args below meth c A C => ?_)
  refine z_iload_n C dX4_isBelow_0 rfl 0 rfl ?_
  obtain ⟨r1, er1, hF⟩ := zbd hF
  refine z_callS (n := 1) (As := [.int x1]) C (c_X4_length l D cI cJ cZ x1 r1 er1) gX4_isBelow_X4_length rfl rfl rfl (by decide +kernel) ⟨Nat.le_of_ble_eq_true rfl, Nat.le_of_ble_eq_true rfl⟩ ⟨Nat.zero_le _, Nat.zero_le _⟩ rfl rfl (Nat.le_of_ble_eq_true rfl) dX4_isBelow_1 ?_
  refine z_iload_n C dX4_isBelow_4 rfl 1 rfl ?_
  obtain ⟨r2, er2, hF⟩ := zbd hF
  refine z_callS (n := 1) (As := [.int x2]) C (c_X4_length l D cI cJ cZ x2 r2 er2) gX4_isBelow_X4_length rfl rfl rfl (by decide +kernel) ⟨Nat.le_of_ble_eq_true rfl, Nat.le_of_ble_eq_true rfl⟩ ⟨Nat.zero_le _, Nat.zero_le _⟩ rfl rfl (Nat.le_of_ble_eq_true rfl) dX4_isBelow_5 ?_
  refine z_isub C dX4_isBelow_8 ?_
  refine z_istore_n (lv' := [(2, .int (r1 - r2)), (0, .int x1), (1, .int x2)]) C dX4_isBelow_9 rfl (by decide) rfl ?_
  refine z_iload_n C dX4_isBelow_10 rfl 0 rfl ?_
  refine z_if_lt (tgt := 27) C dX4_isBelow_11 (by decide) (fun c3 => ?_) (fun c3 => ?_)
  · have hF := zif hF c3
    refine z_iconst (v := 0) C dX4_isBelow_27 (by decide) ?_
    have hu := Option.some.inj hF
    subst hu
    exact z_iret C dX4_isBelow_28 rfl z_b0
  · have hF := zelse hF c3
    refine z_iload_n C dX4_isBelow_14 rfl 1 rfl ?_
    refine z_iload_n C dX4_isBelow_15 rfl 0 rfl ?_
    obtain ⟨r4, er4, hF⟩ := zbd hF
    refine z_callS (n := 2) (As := [.int x1, .int (r1 - r2)]) C (c_X4_withoutLast l D cI cJ cZ x1 (r1 - r2) r4 er4) gX4_isBelow_X4_withoutLast rfl rfl rfl (by decide +kernel) ⟨Nat.le_of_ble_eq_true rfl, Nat.le_of_ble_eq_true rfl⟩ ⟨Nat.zero_le _, Nat.zero_le _⟩ rfl rfl (Nat.le_of_ble_eq_true rfl) dX4_isBelow_16 ?_
    refine z_iload_n C dX4_isBelow_19 rfl 2 rfl ?_
    refine z_icmp_ne (tgt := 27) C dX4_isBelow_20 (by decide) (fun c5 => ?_) (fun c5 => ?_)
    · have hF := zelse hF c5
      refine z_iconst (v := 0) C dX4_isBelow_27 (by decide) ?_
      have hu := Option.some.inj hF
      subst hu
      exact z_iret C dX4_isBelow_28 rfl z_b0
    · have hF := zif hF c5
      refine z_iconst (v := 1) C dX4_isBelow_23 (by decide) ?_
      refine z_goto (tgt := 28) C dX4_isBelow_24 (by decide) ?_
      have hu := Option.some.inj hF
      subst hu
      exact z_iret C dX4_isBelow_28 rfl z_b1
theorem kX2_end_21 : Cond.fieldLink RX2 21 "SecretBroker$Leased" "on" "[Z" ∈ wsX2_end := by decide +kernel
theorem kX2_end_29 : Cond.fieldLink RX2 29 "SecretBroker$Leased" "living" "I" ∈ wsX2_end := by decide +kernel
theorem hX2_end_X1 : ∀ w ∈ wsX10, w ∈ wsX2_end := by decide +kernel
set_option maxHeartbeats 4000000 in
set_option maxRecDepth 100000 in
theorem c_X2_end_1 (l : Launch) (D : va_G) (cI cJ cZ : ClassId) (a1 : Nat → Nat) (K : SS) (x1 : Int32) (u : Int32 × SS) (hF : f_X2_end K x1 = some u) : zM l yX2_end wsX2_end ({ frames := 2, cells := 0, slots := 0, locals := 42 }) D (zTy cI cJ cZ) [.ref (a1 0), .int x1] (zwX1 cI cJ cZ a1 K) (some (.int u.1)) (zwX1 cI cJ cZ a1 u.2) := by
  refine z_body (cc := cX2_end) (maxL := 2) (rty := (some .int)) (own := RX2) (lv := [(0, .ref (a1 0)), (1, .int x1)]) (by decide +kernel) rfl rfl (Nat.le_of_ble_eq_true rfl) rfl (fun p e s m args below meth c A C => ?_)
  refine z_aload_n C dX2_end_0 rfl 0 rfl ?_
  refine z_iload_n C dX2_end_1 rfl 1 rfl ?_
  obtain ⟨r1, er1, hF⟩ := zbd hF
  refine z_callU (n := 1) (As := [.int x1]) (ws' := (zwX1 cI cJ cZ a1 K)) C (c_X2_isOn_1 l D cI cJ cZ a1 K x1 r1 er1) gX2_end_X2_isOn_u45X1 rfl rfl rfl rfl (by decide +kernel) ⟨Nat.le_of_ble_eq_true rfl, Nat.le_of_ble_eq_true rfl⟩ ⟨Nat.zero_le _, Nat.zero_le _⟩ 0 rfl rfl [] [] rfl rfl rfl rfl (Nat.le_of_ble_eq_true rfl) dX2_end_2 ?_
  refine z_if_ne (tgt := 10) C dX2_end_5 (by decide) (fun c2 => ?_) (fun c2 => ?_)
  · have hF := zelse hF c2
    refine z_aload_n C dX2_end_10 rfl 0 rfl ?_
    refine z_get (ref := "SecretBroker$Leased") (v := .ref (a1 4)) C hX2_end_X1 0 rfl rfl 3 (by decide) kX2_end_21 (fun _ h9 => h9) rfl dX2_end_11 ?_
    refine z_iload_n C dX2_end_14 rfl 1 rfl ?_
    refine z_iconst (v := 0) C dX2_end_15 (by decide) ?_
    obtain ⟨g3, hF⟩ := zix_some hF
    refine z_zast (ws' := (zwX1 cI cJ cZ a1 (za K 3 x1 (vp_nar .boolean 0)))) C g3 4 rfl rfl dX2_end_16 (za_row K 3 x1 (vp_nar .boolean 0)) (zr_X1_3 cI cJ cZ a1 K x1 (vp_nar .boolean 0)) ?_
    refine z_aload_n C dX2_end_17 rfl 0 rfl ?_
    refine z_dup C dX2_end_18 rfl ?_
    refine z_get (ref := "SecretBroker$Leased") (v := .int (K 5 0)) C hX2_end_X1 0 rfl rfl 5 (by decide) kX2_end_29 (fun _ h9 => h9) rfl dX2_end_19 ?_
    refine z_iconst (v := 1) C dX2_end_22 (by decide) ?_
    refine z_isub C dX2_end_23 ?_
    refine z_put (ws' := (zwX1 cI cJ cZ a1 (zs (za K 3 x1 (vp_nar .boolean 0)) 5 ((K 5 0) - 1)))) (ref := "SecretBroker$Leased") (ty := .int) C hX2_end_X1 tyX1 tyX1_ok nmX1 0 rfl rfl 5 (by decide) kX2_end_29 (fun _ h9 => h9) rfl (by decide +kernel) rfl rfl (Nat.le_of_ble_eq_true rfl) dX2_end_24 (zs_val (za K 3 x1 (vp_nar .boolean 0)) 5 ((K 5 0) - 1)) (zf_X1_5 cI cJ cZ a1 (za K 3 x1 (vp_nar .boolean 0)) ((K 5 0) - 1)) ?_
    refine z_iconst (v := 1) C dX2_end_27 (by decide) ?_
    have hu := Option.some.inj hF
    subst hu
    exact z_iret C dX2_end_28 rfl rfl
  · have hF := zif hF c2
    refine z_iconst (v := 0) C dX2_end_8 (by decide) ?_
    have hu := Option.some.inj hF
    subst hu
    exact z_iret C dX2_end_9 rfl rfl
theorem kX1_endBelow_15 : Cond.fieldLink RX1 15 "SecretBroker$Credentials" "paths" "[I" ∈ wsX1_endBelow := by decide +kernel
theorem hX1_endBelow_X1 : ∀ w ∈ wsX10, w ∈ wsX1_endBelow := by decide +kernel
set_option maxHeartbeats 4000000 in
set_option maxRecDepth 100000 in
theorem c_X1_endBelow_j4 (l : Launch) (D : va_G) (cI cJ cZ : ClassId) (a1 : Nat → Nat) (K : SS) (u : Int32 × SS) {p : Program} {e : Env} {s : State} {m : MethodId} {args : Array Value} {below : List Frame} {meth : Method} {c : Code} {A : Nat → Prop} (C : zC p s m args meth c cX1_endBelow 4 (some .int) RX1 wsX1_endBelow D (zTy cI cJ cZ) A s.heap) : ∀ (n : Nat) (Kc : SS) (v1 : Int32) (v2 : Int32) (v3 : Int32), f_X1_endBelow_4 n Kc v1 v2 v3 = some u → zW p l e { frames := 3, cells := 0, slots := 0, locals := 63 } s m args below meth c 4 D A s.heap 0 0 (MQ below (zQ D (zTy cI cJ cZ) (some (.int u.1)) (zwX1 cI cJ cZ a1 u.2) A) args s 0 0 A) (zwX1 cI cJ cZ a1 Kc) [(0, .ref (a1 0)), (1, .int v1), (2, .int v2), (3, .int v3)] 4 [] := by
  intro n
  induction n with
  | zero => intro Kc v1 v2 v3 hF; exact absurd (show none = some u from hF) (fun q => nomatch q)
  | succ n ih =>
    intro Kc v1 v2 v3 hF
    refine z_iload_n C dX1_endBelow_4 rfl 3 rfl ?_
    refine z_aload_n C dX1_endBelow_5 rfl 0 rfl ?_
    obtain ⟨r1, er1, hF⟩ := zbd hF
    refine z_callU (n := 0) (As := []) (ws' := (zwX1 cI cJ cZ a1 Kc)) C (c_X2_made_1 l D cI cJ cZ a1 Kc r1 er1) gX1_endBelow_X2_made_u22X1 rfl rfl rfl rfl (by decide +kernel) ⟨Nat.le_of_ble_eq_true rfl, Nat.le_of_ble_eq_true rfl⟩ ⟨Nat.zero_le _, Nat.zero_le _⟩ 0 rfl rfl [] [] rfl rfl rfl rfl (Nat.le_of_ble_eq_true rfl) dX1_endBelow_6 ?_
    refine z_icmp_ge (tgt := 39) C dX1_endBelow_9 (by decide) (fun c2 => ?_) (fun c2 => ?_)
    · have hF := zif hF c2
      refine z_iload_n C dX1_endBelow_39 rfl 2 rfl ?_
      have hu := Option.some.inj hF
      subst hu
      exact z_iret C dX1_endBelow_40 rfl rfl
    · have hF := zelse hF c2
      refine z_aload_n C dX1_endBelow_12 rfl 0 rfl ?_
      refine z_get (ref := "SecretBroker$Credentials") (v := .ref (a1 6)) C hX1_endBelow_X1 0 rfl rfl 7 (by decide) kX1_endBelow_15 (fun _ h9 => h9) rfl dX1_endBelow_13 ?_
      refine z_iload_n C dX1_endBelow_16 rfl 3 rfl ?_
      obtain ⟨g3, hF⟩ := zix_some hF
      refine z_iald (v := ((Kc 7) v3.toNatClampNeg)) C g3 6 rfl rfl rfl dX1_endBelow_17 ?_
      refine z_iload_n C dX1_endBelow_18 rfl 1 rfl ?_
      obtain ⟨r4, er4, hF⟩ := zbd hF
      refine z_callS (n := 2) (As := [.int ((Kc 7) v3.toNatClampNeg), .int v1]) C (c_X4_isBelow l D cI cJ cZ ((Kc 7) v3.toNatClampNeg) v1 r4 er4) gX1_endBelow_X4_isBelow rfl rfl rfl (by decide +kernel) ⟨Nat.le_of_ble_eq_true rfl, Nat.le_of_ble_eq_true rfl⟩ ⟨Nat.zero_le _, Nat.zero_le _⟩ rfl rfl (Nat.le_of_ble_eq_true rfl) dX1_endBelow_19 ?_
      refine z_if_eq (tgt := 33) C dX1_endBelow_22 (by decide) (fun c5 => ?_) (fun c5 => ?_)
      · have hF := zif hF c5
        refine z_iinc (v := (v3 + 1)) (lv' := [(3, .int (v3 + 1)), (0, .ref (a1 0)), (1, .int v1), (2, .int v2)]) C dX1_endBelow_33 3 rfl rfl (by decide) rfl ?_
        refine z_goto (tgt := 4) C dX1_endBelow_36 (by decide) ?_
        exact z_sub C [1, 2, 3, 0] rfl (ih Kc v1 v2 (v3 + 1) hF)
      · have hF := zelse hF c5
        refine z_iload_n C dX1_endBelow_25 rfl 2 rfl ?_
        refine z_aload_n C dX1_endBelow_26 rfl 0 rfl ?_
        refine z_iload_n C dX1_endBelow_27 rfl 3 rfl ?_
        obtain ⟨r6, er6, hF⟩ := zbd hF
        refine z_callU (n := 1) (As := [.int v3]) (ws' := (zwX1 cI cJ cZ a1 r6.2)) C (c_X2_end_1 l D cI cJ cZ a1 Kc v3 r6 er6) gX1_endBelow_X2_end_u35X1 rfl rfl rfl rfl (by decide +kernel) ⟨Nat.le_of_ble_eq_true rfl, Nat.le_of_ble_eq_true rfl⟩ ⟨Nat.zero_le _, Nat.zero_le _⟩ 0 rfl rfl [] [] rfl rfl rfl rfl (Nat.le_of_ble_eq_true rfl) dX1_endBelow_28 ?_
        refine z_iadd C dX1_endBelow_31 ?_
        refine z_istore_n (lv' := [(2, .int (v2 + r6.1)), (0, .ref (a1 0)), (1, .int v1), (3, .int v3)]) C dX1_endBelow_32 rfl (by decide) rfl ?_
        refine z_iinc (v := (v3 + 1)) (lv' := [(3, .int (v3 + 1)), (2, .int (v2 + r6.1)), (0, .ref (a1 0)), (1, .int v1)]) C dX1_endBelow_33 3 rfl rfl (by decide) rfl ?_
        refine z_goto (tgt := 4) C dX1_endBelow_36 (by decide) ?_
        exact z_sub C [2, 3, 1, 0] rfl (ih r6.2 v1 (v2 + r6.1) (v3 + 1) hF)
set_option maxHeartbeats 4000000 in
set_option maxRecDepth 100000 in
theorem c_X1_endBelow (l : Launch) (D : va_G) (cI cJ cZ : ClassId) (a1 : Nat → Nat) (K : SS) (x1 : Int32) (u : Int32 × SS) (hF : f_X1_endBelow K x1 = some u) : zM l yX1_endBelow wsX1_endBelow ({ frames := 3, cells := 0, slots := 0, locals := 63 }) D (zTy cI cJ cZ) [.ref (a1 0), .int x1] (zwX1 cI cJ cZ a1 K) (some (.int u.1)) (zwX1 cI cJ cZ a1 u.2) := by
  refine z_body (cc := cX1_endBelow) (maxL := 4) (rty := (some .int)) (own := RX1) (lv := [(0, .ref (a1 0)), (1, .int x1)]) (by decide +kernel) rfl rfl (Nat.le_of_ble_eq_true rfl) rfl (fun p e s m args below meth c A C => ?_)
  refine z_iconst (v := 0) C dX1_endBelow_0 (by decide) ?_
  refine z_istore_n (lv' := [(2, .int 0), (0, .ref (a1 0)), (1, .int x1)]) C dX1_endBelow_1 rfl (by decide) rfl ?_
  refine z_iconst (v := 0) C dX1_endBelow_2 (by decide) ?_
  refine z_istore_n (lv' := [(3, .int 0), (2, .int 0), (0, .ref (a1 0)), (1, .int x1)]) C dX1_endBelow_3 rfl (by decide) rfl ?_
  exact z_sub C [2, 3, 1, 0] rfl (c_X1_endBelow_j4 l D cI cJ cZ a1 K u C 600 K x1 0 0 hF)
