theorem kX0_count_25 : Cond.fieldLink RX0 25 "SecretBroker$Audit" "count" "I" ∈ wsX0_count := by decide +kernel
theorem hX0_count_X0 : ∀ w ∈ wsX00, w ∈ wsX0_count := by decide +kernel
set_option maxHeartbeats 4000000 in
set_option maxRecDepth 100000 in
theorem c_X0_count (l : Launch) (D : va_G) (cI cJ cZ : ClassId) (a0 : Nat → Nat) (U : SS) (L : SL) (u : Int32) (hF : f_X0_count U = some u) : zM l yX0_count wsX0_count ({ frames := 0, cells := 0, slots := 0, locals := 0 }) D (zTy cI cJ cZ) [.ref (a0 0)] (zwX0 cI cJ cZ a0 U L) (some (.int u)) (zwX0 cI cJ cZ a0 U L) := by
  refine z_body (cc := cX0_count) (maxL := 1) (rty := (some .int)) (own := RX0) (lv := [(0, .ref (a0 0))]) (by decide +kernel) rfl rfl (Nat.le_of_ble_eq_true rfl) rfl (fun p e s m args below meth c A C => ?_)
  refine z_aload_n C dX0_count_0 rfl 0 rfl ?_
  refine z_get (ref := "SecretBroker$Audit") (v := .int (U 4 0)) C hX0_count_X0 0 rfl rfl 4 (by decide) kX0_count_25 (fun _ h9 => h9) rfl dX0_count_1 ?_
  have hu := Option.some.inj hF
  subst hu
  exact z_iret C dX0_count_4 rfl rfl
theorem kX0_has_25 : Cond.fieldLink RX0 25 "SecretBroker$Audit" "count" "I" ∈ wsX0_has := by decide +kernel
theorem hX0_has_X0 : ∀ w ∈ wsX00, w ∈ wsX0_has := by decide +kernel
set_option maxHeartbeats 4000000 in
set_option maxRecDepth 100000 in
theorem c_X0_has (l : Launch) (D : va_G) (cI cJ cZ : ClassId) (a0 : Nat → Nat) (U : SS) (L : SL) (x1 : Int32) (u : Int32) (hF : f_X0_has U x1 = some u) : zM l yX0_has wsX0_has ({ frames := 0, cells := 0, slots := 0, locals := 0 }) D (zTy cI cJ cZ) [.ref (a0 0), .int x1] (zwX0 cI cJ cZ a0 U L) (some (.int u)) (zwX0 cI cJ cZ a0 U L) := by
  refine z_body (cc := cX0_has) (maxL := 2) (rty := (some .boolean)) (own := RX0) (lv := [(0, .ref (a0 0)), (1, .int x1)]) (by decide +kernel) rfl rfl (Nat.le_of_ble_eq_true rfl) rfl (fun p e s m args below meth c A C => ?_)
  refine z_iload_n C dX0_has_0 rfl 1 rfl ?_
  refine z_if_lt (tgt := 16) C dX0_has_1 (by decide) (fun c1 => ?_) (fun c1 => ?_)
  · have hF := zif hF c1
    refine z_iconst (v := 0) C dX0_has_16 (by decide) ?_
    have hu := Option.some.inj hF
    subst hu
    exact z_iret C dX0_has_17 rfl z_b0
  · have hF := zelse hF c1
    refine z_iload_n C dX0_has_4 rfl 1 rfl ?_
    refine z_aload_n C dX0_has_5 rfl 0 rfl ?_
    refine z_get (ref := "SecretBroker$Audit") (v := .int (U 4 0)) C hX0_has_X0 0 rfl rfl 4 (by decide) kX0_has_25 (fun _ h9 => h9) rfl dX0_has_6 ?_
    refine z_icmp_ge (tgt := 16) C dX0_has_9 (by decide) (fun c2 => ?_) (fun c2 => ?_)
    · have hF := zif hF c2
      refine z_iconst (v := 0) C dX0_has_16 (by decide) ?_
      have hu := Option.some.inj hF
      subst hu
      exact z_iret C dX0_has_17 rfl z_b0
    · have hF := zelse hF c2
      refine z_iconst (v := 1) C dX0_has_12 (by decide) ?_
      refine z_goto (tgt := 17) C dX0_has_13 (by decide) ?_
      have hu := Option.some.inj hF
      subst hu
      exact z_iret C dX0_has_17 rfl z_b1
theorem kX0_write_25 : Cond.fieldLink RX0 25 "SecretBroker$Audit" "count" "I" ∈ wsX0_write := by decide +kernel
theorem kX0_write_21 : Cond.fieldLink RX0 21 "SecretBroker$Audit" "sums" "[J" ∈ wsX0_write := by decide +kernel
theorem kX0_write_9 : Cond.fieldLink RX0 9 "SecretBroker$Audit" "kinds" "[I" ∈ wsX0_write := by decide +kernel
theorem kX0_write_15 : Cond.fieldLink RX0 15 "SecretBroker$Audit" "subjects" "[I" ∈ wsX0_write := by decide +kernel
theorem kX0_write_18 : Cond.fieldLink RX0 18 "SecretBroker$Audit" "details" "[I" ∈ wsX0_write := by decide +kernel
theorem kX0_write_31 : Cond.constantLong RX0 31 (31) ∈ wsX0_write := by decide +kernel
theorem kX0_write_33 : Cond.constantLong RX0 33 (7) ∈ wsX0_write := by decide +kernel
theorem kX0_write_35 : Cond.constantLong RX0 35 (5) ∈ wsX0_write := by decide +kernel
theorem kX0_write_37 : Cond.constantLong RX0 37 (3) ∈ wsX0_write := by decide +kernel
theorem kX0_write_39 : Cond.constantLong RX0 39 (1000003) ∈ wsX0_write := by decide +kernel
theorem kX0_write_29 : Cond.constantLong RX0 29 (17) ∈ wsX0_write := by decide +kernel
theorem hX0_write_X0 : ∀ w ∈ wsX00, w ∈ wsX0_write := by decide +kernel
set_option maxHeartbeats 4000000 in
set_option maxRecDepth 100000 in
theorem c_X0_write (l : Launch) (D : va_G) (cI cJ cZ : ClassId) (a0 : Nat → Nat) (U : SS) (L : SL) (x1 : Int32) (x2 : Int32) (x3 : Int32) (x4 : Int32) (u : SS × SL) (hF : f_X0_write U L x1 x2 x3 x4 = some u) : zM l yX0_write wsX0_write ({ frames := 0, cells := 0, slots := 0, locals := 0 }) D (zTy cI cJ cZ) [.ref (a0 0), .int x1, .int x2, .int x3, .int x4] (zwX0 cI cJ cZ a0 U L) none (zwX0 cI cJ cZ a0 u.1 u.2) := by
  refine z_body (cc := cX0_write) (maxL := 7) (rty := none) (own := RX0) (lv := [(0, .ref (a0 0)), (1, .int x1), (2, .int x2), (3, .int x3), (4, .int x4)]) (by decide +kernel) rfl rfl (Nat.le_of_ble_eq_true rfl) rfl (fun p e s m args below meth c A C => ?_)
  refine z_aload_n C dX0_write_0 rfl 0 rfl ?_
  refine z_get (ref := "SecretBroker$Audit") (v := .int (U 4 0)) C hX0_write_X0 0 rfl rfl 4 (by decide) kX0_write_25 (fun _ h9 => h9) rfl dX0_write_1 ?_
  refine z_sipush (v := 513) C dX0_write_4 (by decide) ?_
  refine z_icmp_lt (tgt := 11) C dX0_write_7 (by decide) (fun c1 => ?_) (fun c1 => ?_)
  · have hF := zif hF c1
    refine z_aload_n C dX0_write_11 rfl 0 rfl ?_
    refine z_get (ref := "SecretBroker$Audit") (v := .int (U 4 0)) C hX0_write_X0 0 rfl rfl 4 (by decide) kX0_write_25 (fun _ h9 => h9) rfl dX0_write_12 ?_
    refine z_if_ne (tgt := 24) C dX0_write_15 (by decide) (fun c2 => ?_) (fun c2 => ?_)
    · have hF := zelse hF c2
      refine z_aload_n C dX0_write_24 rfl 0 rfl ?_
      refine z_get (ref := "SecretBroker$Audit") (v := .ref (a0 4)) C hX0_write_X0 0 rfl rfl 3 (by decide) kX0_write_21 (fun _ h9 => h9) rfl dX0_write_25 ?_
      refine z_aload_n C dX0_write_28 rfl 0 rfl ?_
      refine z_get (ref := "SecretBroker$Audit") (v := .int (U 4 0)) C hX0_write_X0 0 rfl rfl 4 (by decide) kX0_write_25 (fun _ h9 => h9) rfl dX0_write_29 ?_
      refine z_iconst (v := 1) C dX0_write_32 (by decide) ?_
      refine z_isub C dX0_write_33 ?_
      obtain ⟨g3, hF⟩ := zix_some hF
      refine z_lald (v := (L ((U 4 0) - 1).toNatClampNeg)) C g3 4 rfl rfl rfl dX0_write_34 ?_
      refine z_lstore (lv' := [(5, .long (L ((U 4 0) - 1).toNatClampNeg)), (0, .ref (a0 0)), (1, .int x1), (2, .int x2), (3, .int x3), (4, .int x4)]) C dX0_write_35 (by decide) rfl ?_
      refine z_aload_n C dX0_write_37 rfl 1 rfl ?_
      refine z_get (ref := "SecretBroker$Audit") (v := .ref (a0 1)) C hX0_write_X0 0 rfl rfl 0 (by decide) kX0_write_9 (fun _ h9 => h9) rfl dX0_write_38 ?_
      refine z_aload_n C dX0_write_41 rfl 1 rfl ?_
      refine z_get (ref := "SecretBroker$Audit") (v := .int (U 4 0)) C hX0_write_X0 0 rfl rfl 4 (by decide) kX0_write_25 (fun _ h9 => h9) rfl dX0_write_42 ?_
      refine z_iload_n C dX0_write_45 rfl 2 rfl ?_
      obtain ⟨g4, hF⟩ := zix_some hF
      refine z_iast (ws' := (zwX0 cI cJ cZ a0 (za U 0 (U 4 0) x1) L)) C g4 1 rfl rfl dX0_write_46 (za_row U 0 (U 4 0) x1) (zr_X0_0 cI cJ cZ a0 U L (U 4 0) x1) ?_
      refine z_aload_n C dX0_write_47 rfl 1 rfl ?_
      refine z_get (ref := "SecretBroker$Audit") (v := .ref (a0 2)) C hX0_write_X0 0 rfl rfl 1 (by decide) kX0_write_15 (fun _ h9 => h9) rfl dX0_write_48 ?_
      refine z_aload_n C dX0_write_51 rfl 1 rfl ?_
      refine z_get (ref := "SecretBroker$Audit") (v := .int (U 4 0)) C hX0_write_X0 0 rfl rfl 4 (by decide) kX0_write_25 (fun _ h9 => h9) rfl dX0_write_52 ?_
      refine z_iload_n C dX0_write_55 rfl 3 rfl ?_
      obtain ⟨g5, hF⟩ := zix_some hF
      refine z_iast (ws' := (zwX0 cI cJ cZ a0 (za (za U 0 (U 4 0) x1) 1 (U 4 0) x2) L)) C g5 2 rfl rfl dX0_write_56 (za_row (za U 0 (U 4 0) x1) 1 (U 4 0) x2) (zr_X0_1 cI cJ cZ a0 (za U 0 (U 4 0) x1) L (U 4 0) x2) ?_
      refine z_aload_n C dX0_write_57 rfl 1 rfl ?_
      refine z_get (ref := "SecretBroker$Audit") (v := .ref (a0 3)) C hX0_write_X0 0 rfl rfl 2 (by decide) kX0_write_18 (fun _ h9 => h9) rfl dX0_write_58 ?_
      refine z_aload_n C dX0_write_61 rfl 1 rfl ?_
      refine z_get (ref := "SecretBroker$Audit") (v := .int (U 4 0)) C hX0_write_X0 0 rfl rfl 4 (by decide) kX0_write_25 (fun _ h9 => h9) rfl dX0_write_62 ?_
      refine z_iload_n C dX0_write_65 rfl 4 rfl ?_
      obtain ⟨g6, hF⟩ := zix_some hF
      refine z_iast (ws' := (zwX0 cI cJ cZ a0 (za (za (za U 0 (U 4 0) x1) 1 (U 4 0) x2) 2 (U 4 0) x3) L)) C g6 3 rfl rfl dX0_write_66 (za_row (za (za U 0 (U 4 0) x1) 1 (U 4 0) x2) 2 (U 4 0) x3) (zr_X0_2 cI cJ cZ a0 (za (za U 0 (U 4 0) x1) 1 (U 4 0) x2) L (U 4 0) x3) ?_
      refine z_aload_n C dX0_write_67 rfl 1 rfl ?_
      refine z_get (ref := "SecretBroker$Audit") (v := .ref (a0 4)) C hX0_write_X0 0 rfl rfl 3 (by decide) kX0_write_21 (fun _ h9 => h9) rfl dX0_write_68 ?_
      refine z_aload_n C dX0_write_71 rfl 1 rfl ?_
      refine z_get (ref := "SecretBroker$Audit") (v := .int (U 4 0)) C hX0_write_X0 0 rfl rfl 4 (by decide) kX0_write_25 (fun _ h9 => h9) rfl dX0_write_72 ?_
      refine z_ldc2 (v := 31) C kX0_write_31 dX0_write_75 ?_
      refine z_lload C dX0_write_78 0 rfl ?_
      refine z_lmul C dX0_write_80 ?_
      refine z_ldc2 (v := 7) C kX0_write_33 dX0_write_81 ?_
      refine z_iload_n C dX0_write_84 rfl 2 rfl ?_
      refine z_i2l C dX0_write_85 ?_
      refine z_lmul C dX0_write_86 ?_
      refine z_ladd C dX0_write_87 ?_
      refine z_ldc2 (v := 5) C kX0_write_35 dX0_write_88 ?_
      refine z_iload_n C dX0_write_91 rfl 3 rfl ?_
      refine z_i2l C dX0_write_92 ?_
      refine z_lmul C dX0_write_93 ?_
      refine z_ladd C dX0_write_94 ?_
      refine z_ldc2 (v := 3) C kX0_write_37 dX0_write_95 ?_
      refine z_iload_n C dX0_write_98 rfl 4 rfl ?_
      refine z_i2l C dX0_write_99 ?_
      refine z_lmul C dX0_write_100 ?_
      refine z_ladd C dX0_write_101 ?_
      refine z_iload C dX0_write_102 5 rfl ?_
      refine z_i2l C dX0_write_104 ?_
      refine z_ladd C dX0_write_105 ?_
      refine z_ldc2 (v := 1000003) C kX0_write_39 dX0_write_106 ?_
      refine z_lrem C dX0_write_109 (by decide) ?_
      obtain ⟨g7, hF⟩ := zix_some hF
      refine z_last (ws' := (zwX0 cI cJ cZ a0 (za (za (za U 0 (U 4 0) x1) 1 (U 4 0) x2) 2 (U 4 0) x3) (vp_updL L (U 4 0).toNatClampNeg ((((((31 * (L ((U 4 0) - 1).toNatClampNeg)) + (7 * ((x1).toInt64))) + (5 * ((x2).toInt64))) + (3 * ((x3).toInt64))) + ((x4).toInt64)) - (((((31 * (L ((U 4 0) - 1).toNatClampNeg)) + (7 * ((x1).toInt64))) + (5 * ((x2).toInt64))) + (3 * ((x3).toInt64))) + ((x4).toInt64)) / 1000003 * 1000003)))) C g7 4 rfl rfl dX0_write_110 (zr_X0_3 cI cJ cZ a0 (za (za (za U 0 (U 4 0) x1) 1 (U 4 0) x2) 2 (U 4 0) x3) L ((U 4 0).toNatClampNeg) ((((((31 * (L ((U 4 0) - 1).toNatClampNeg)) + (7 * ((x1).toInt64))) + (5 * ((x2).toInt64))) + (3 * ((x3).toInt64))) + ((x4).toInt64)) - (((((31 * (L ((U 4 0) - 1).toNatClampNeg)) + (7 * ((x1).toInt64))) + (5 * ((x2).toInt64))) + (3 * ((x3).toInt64))) + ((x4).toInt64)) / 1000003 * 1000003)) ?_
      refine z_aload_n C dX0_write_111 rfl 1 rfl ?_
      refine z_dup C dX0_write_112 rfl ?_
      refine z_get (ref := "SecretBroker$Audit") (v := .int (U 4 0)) C hX0_write_X0 0 rfl rfl 4 (by decide) kX0_write_25 (fun _ h9 => h9) rfl dX0_write_113 ?_
      refine z_iconst (v := 1) C dX0_write_116 (by decide) ?_
      refine z_iadd C dX0_write_117 ?_
      refine z_put (ws' := (zwX0 cI cJ cZ a0 (zs (za (za (za U 0 (U 4 0) x1) 1 (U 4 0) x2) 2 (U 4 0) x3) 4 ((U 4 0) + 1)) (vp_updL L (U 4 0).toNatClampNeg ((((((31 * (L ((U 4 0) - 1).toNatClampNeg)) + (7 * ((x1).toInt64))) + (5 * ((x2).toInt64))) + (3 * ((x3).toInt64))) + ((x4).toInt64)) - (((((31 * (L ((U 4 0) - 1).toNatClampNeg)) + (7 * ((x1).toInt64))) + (5 * ((x2).toInt64))) + (3 * ((x3).toInt64))) + ((x4).toInt64)) / 1000003 * 1000003)))) (ref := "SecretBroker$Audit") (ty := .int) C hX0_write_X0 tyX0 tyX0_ok nmX0 0 rfl rfl 4 (by decide) kX0_write_25 (fun _ h9 => h9) rfl (by decide +kernel) rfl rfl (Nat.le_of_ble_eq_true rfl) dX0_write_118 (zs_val (za (za (za U 0 (U 4 0) x1) 1 (U 4 0) x2) 2 (U 4 0) x3) 4 ((U 4 0) + 1)) (zf_X0_4 cI cJ cZ a0 (za (za (za U 0 (U 4 0) x1) 1 (U 4 0) x2) 2 (U 4 0) x3) (vp_updL L (U 4 0).toNatClampNeg ((((((31 * (L ((U 4 0) - 1).toNatClampNeg)) + (7 * ((x1).toInt64))) + (5 * ((x2).toInt64))) + (3 * ((x3).toInt64))) + ((x4).toInt64)) - (((((31 * (L ((U 4 0) - 1).toNatClampNeg)) + (7 * ((x1).toInt64))) + (5 * ((x2).toInt64))) + (3 * ((x3).toInt64))) + ((x4).toInt64)) / 1000003 * 1000003)) ((U 4 0) + 1)) ?_
      have hu := Option.some.inj hF
      subst hu
      exact z_vret C dX0_write_121 rfl
    · have hF := zif hF c2
      refine z_ldc2 (v := 17) C kX0_write_29 dX0_write_18 ?_
      refine z_goto (tgt := 35) C dX0_write_21 (by decide) ?_
      refine z_lstore (lv' := [(5, .long 17), (0, .ref (a0 0)), (1, .int x1), (2, .int x2), (3, .int x3), (4, .int x4)]) C dX0_write_35 (by decide) rfl ?_
      refine z_aload_n C dX0_write_37 rfl 1 rfl ?_
      refine z_get (ref := "SecretBroker$Audit") (v := .ref (a0 1)) C hX0_write_X0 0 rfl rfl 0 (by decide) kX0_write_9 (fun _ h9 => h9) rfl dX0_write_38 ?_
      refine z_aload_n C dX0_write_41 rfl 1 rfl ?_
      refine z_get (ref := "SecretBroker$Audit") (v := .int (U 4 0)) C hX0_write_X0 0 rfl rfl 4 (by decide) kX0_write_25 (fun _ h9 => h9) rfl dX0_write_42 ?_
      refine z_iload_n C dX0_write_45 rfl 2 rfl ?_
      obtain ⟨g8, hF⟩ := zix_some hF
      refine z_iast (ws' := (zwX0 cI cJ cZ a0 (za U 0 (U 4 0) x1) L)) C g8 1 rfl rfl dX0_write_46 (za_row U 0 (U 4 0) x1) (zr_X0_0 cI cJ cZ a0 U L (U 4 0) x1) ?_
      refine z_aload_n C dX0_write_47 rfl 1 rfl ?_
      refine z_get (ref := "SecretBroker$Audit") (v := .ref (a0 2)) C hX0_write_X0 0 rfl rfl 1 (by decide) kX0_write_15 (fun _ h9 => h9) rfl dX0_write_48 ?_
      refine z_aload_n C dX0_write_51 rfl 1 rfl ?_
      refine z_get (ref := "SecretBroker$Audit") (v := .int (U 4 0)) C hX0_write_X0 0 rfl rfl 4 (by decide) kX0_write_25 (fun _ h9 => h9) rfl dX0_write_52 ?_
      refine z_iload_n C dX0_write_55 rfl 3 rfl ?_
      obtain ⟨g9, hF⟩ := zix_some hF
      refine z_iast (ws' := (zwX0 cI cJ cZ a0 (za (za U 0 (U 4 0) x1) 1 (U 4 0) x2) L)) C g9 2 rfl rfl dX0_write_56 (za_row (za U 0 (U 4 0) x1) 1 (U 4 0) x2) (zr_X0_1 cI cJ cZ a0 (za U 0 (U 4 0) x1) L (U 4 0) x2) ?_
      refine z_aload_n C dX0_write_57 rfl 1 rfl ?_
      refine z_get (ref := "SecretBroker$Audit") (v := .ref (a0 3)) C hX0_write_X0 0 rfl rfl 2 (by decide) kX0_write_18 (fun _ h9 => h9) rfl dX0_write_58 ?_
      refine z_aload_n C dX0_write_61 rfl 1 rfl ?_
      refine z_get (ref := "SecretBroker$Audit") (v := .int (U 4 0)) C hX0_write_X0 0 rfl rfl 4 (by decide) kX0_write_25 (fun _ h9 => h9) rfl dX0_write_62 ?_
      refine z_iload_n C dX0_write_65 rfl 4 rfl ?_
      obtain ⟨g10, hF⟩ := zix_some hF
      refine z_iast (ws' := (zwX0 cI cJ cZ a0 (za (za (za U 0 (U 4 0) x1) 1 (U 4 0) x2) 2 (U 4 0) x3) L)) C g10 3 rfl rfl dX0_write_66 (za_row (za (za U 0 (U 4 0) x1) 1 (U 4 0) x2) 2 (U 4 0) x3) (zr_X0_2 cI cJ cZ a0 (za (za U 0 (U 4 0) x1) 1 (U 4 0) x2) L (U 4 0) x3) ?_
      refine z_aload_n C dX0_write_67 rfl 1 rfl ?_
      refine z_get (ref := "SecretBroker$Audit") (v := .ref (a0 4)) C hX0_write_X0 0 rfl rfl 3 (by decide) kX0_write_21 (fun _ h9 => h9) rfl dX0_write_68 ?_
      refine z_aload_n C dX0_write_71 rfl 1 rfl ?_
      refine z_get (ref := "SecretBroker$Audit") (v := .int (U 4 0)) C hX0_write_X0 0 rfl rfl 4 (by decide) kX0_write_25 (fun _ h9 => h9) rfl dX0_write_72 ?_
      refine z_ldc2 (v := 31) C kX0_write_31 dX0_write_75 ?_
      refine z_lload C dX0_write_78 0 rfl ?_
      refine z_lmul C dX0_write_80 ?_
      refine z_ldc2 (v := 7) C kX0_write_33 dX0_write_81 ?_
      refine z_iload_n C dX0_write_84 rfl 2 rfl ?_
      refine z_i2l C dX0_write_85 ?_
      refine z_lmul C dX0_write_86 ?_
      refine z_ladd C dX0_write_87 ?_
      refine z_ldc2 (v := 5) C kX0_write_35 dX0_write_88 ?_
      refine z_iload_n C dX0_write_91 rfl 3 rfl ?_
      refine z_i2l C dX0_write_92 ?_
      refine z_lmul C dX0_write_93 ?_
      refine z_ladd C dX0_write_94 ?_
      refine z_ldc2 (v := 3) C kX0_write_37 dX0_write_95 ?_
      refine z_iload_n C dX0_write_98 rfl 4 rfl ?_
      refine z_i2l C dX0_write_99 ?_
      refine z_lmul C dX0_write_100 ?_
      refine z_ladd C dX0_write_101 ?_
      refine z_iload C dX0_write_102 5 rfl ?_
      refine z_i2l C dX0_write_104 ?_
      refine z_ladd C dX0_write_105 ?_
      refine z_ldc2 (v := 1000003) C kX0_write_39 dX0_write_106 ?_
      refine z_lrem C dX0_write_109 (by decide) ?_
      obtain ⟨g11, hF⟩ := zix_some hF
      refine z_last (ws' := (zwX0 cI cJ cZ a0 (za (za (za U 0 (U 4 0) x1) 1 (U 4 0) x2) 2 (U 4 0) x3) (vp_updL L (U 4 0).toNatClampNeg ((((((31 * 17) + (7 * ((x1).toInt64))) + (5 * ((x2).toInt64))) + (3 * ((x3).toInt64))) + ((x4).toInt64)) - (((((31 * 17) + (7 * ((x1).toInt64))) + (5 * ((x2).toInt64))) + (3 * ((x3).toInt64))) + ((x4).toInt64)) / 1000003 * 1000003)))) C g11 4 rfl rfl dX0_write_110 (zr_X0_3 cI cJ cZ a0 (za (za (za U 0 (U 4 0) x1) 1 (U 4 0) x2) 2 (U 4 0) x3) L ((U 4 0).toNatClampNeg) ((((((31 * 17) + (7 * ((x1).toInt64))) + (5 * ((x2).toInt64))) + (3 * ((x3).toInt64))) + ((x4).toInt64)) - (((((31 * 17) + (7 * ((x1).toInt64))) + (5 * ((x2).toInt64))) + (3 * ((x3).toInt64))) + ((x4).toInt64)) / 1000003 * 1000003)) ?_
      refine z_aload_n C dX0_write_111 rfl 1 rfl ?_
      refine z_dup C dX0_write_112 rfl ?_
      refine z_get (ref := "SecretBroker$Audit") (v := .int (U 4 0)) C hX0_write_X0 0 rfl rfl 4 (by decide) kX0_write_25 (fun _ h9 => h9) rfl dX0_write_113 ?_
      refine z_iconst (v := 1) C dX0_write_116 (by decide) ?_
      refine z_iadd C dX0_write_117 ?_
      refine z_put (ws' := (zwX0 cI cJ cZ a0 (zs (za (za (za U 0 (U 4 0) x1) 1 (U 4 0) x2) 2 (U 4 0) x3) 4 ((U 4 0) + 1)) (vp_updL L (U 4 0).toNatClampNeg ((((((31 * 17) + (7 * ((x1).toInt64))) + (5 * ((x2).toInt64))) + (3 * ((x3).toInt64))) + ((x4).toInt64)) - (((((31 * 17) + (7 * ((x1).toInt64))) + (5 * ((x2).toInt64))) + (3 * ((x3).toInt64))) + ((x4).toInt64)) / 1000003 * 1000003)))) (ref := "SecretBroker$Audit") (ty := .int) C hX0_write_X0 tyX0 tyX0_ok nmX0 0 rfl rfl 4 (by decide) kX0_write_25 (fun _ h9 => h9) rfl (by decide +kernel) rfl rfl (Nat.le_of_ble_eq_true rfl) dX0_write_118 (zs_val (za (za (za U 0 (U 4 0) x1) 1 (U 4 0) x2) 2 (U 4 0) x3) 4 ((U 4 0) + 1)) (zf_X0_4 cI cJ cZ a0 (za (za (za U 0 (U 4 0) x1) 1 (U 4 0) x2) 2 (U 4 0) x3) (vp_updL L (U 4 0).toNatClampNeg ((((((31 * 17) + (7 * ((x1).toInt64))) + (5 * ((x2).toInt64))) + (3 * ((x3).toInt64))) + ((x4).toInt64)) - (((((31 * 17) + (7 * ((x1).toInt64))) + (5 * ((x2).toInt64))) + (3 * ((x3).toInt64))) + ((x4).toInt64)) / 1000003 * 1000003)) ((U 4 0) + 1)) ?_
      have hu := Option.some.inj hF
      subst hu
      exact z_vret C dX0_write_121 rfl
  · have hF := zelse hF c1
    have hu := Option.some.inj hF
    subst hu
    exact z_vret C dX0_write_10 rfl
theorem kX0_kindAt_9 : Cond.fieldLink RX0 9 "SecretBroker$Audit" "kinds" "[I" ∈ wsX0_kindAt := by decide +kernel
theorem hX0_kindAt_X0 : ∀ w ∈ wsX00, w ∈ wsX0_kindAt := by decide +kernel
set_option maxHeartbeats 4000000 in
set_option maxRecDepth 100000 in
theorem c_X0_kindAt (l : Launch) (D : va_G) (cI cJ cZ : ClassId) (a0 : Nat → Nat) (U : SS) (L : SL) (x1 : Int32) (u : Int32) (hF : f_X0_kindAt U x1 = some u) : zM l yX0_kindAt wsX0_kindAt ({ frames := 1, cells := 0, slots := 0, locals := 21 }) D (zTy cI cJ cZ) [.ref (a0 0), .int x1] (zwX0 cI cJ cZ a0 U L) (some (.int u)) (zwX0 cI cJ cZ a0 U L) := by
  refine z_body (cc := cX0_kindAt) (maxL := 2) (rty := (some .int)) (own := RX0) (lv := [(0, .ref (a0 0)), (1, .int x1)]) (by decide +kernel) rfl rfl (Nat.le_of_ble_eq_true rfl) rfl (fun p e s m args below meth c A C => ?_)
  refine z_aload_n C dX0_kindAt_0 rfl 0 rfl ?_
  refine z_iload_n C dX0_kindAt_1 rfl 1 rfl ?_
  obtain ⟨r1, er1, hF⟩ := zbd hF
  refine z_callV (n := 1) (As := [.int x1]) (ws' := (zwX0 cI cJ cZ a0 U L)) C (c_X0_has l D cI cJ cZ a0 U L x1 r1 er1) gX0_kindAt_X0_has rfl rfl rfl (by decide +kernel) ⟨Nat.le_of_ble_eq_true rfl, Nat.le_of_ble_eq_true rfl⟩ ⟨Nat.zero_le _, Nat.zero_le _⟩ 0 rfl rfl [] [] rfl rfl rfl rfl (Nat.le_of_ble_eq_true rfl) dX0_kindAt_2 ?_
  refine z_if_eq (tgt := 17) C dX0_kindAt_5 (by decide) (fun c2 => ?_) (fun c2 => ?_)
  · have hF := zif hF c2
    refine z_iconst (v := 0) C dX0_kindAt_17 (by decide) ?_
    have hu := Option.some.inj hF
    subst hu
    exact z_iret C dX0_kindAt_18 rfl rfl
  · have hF := zelse hF c2
    refine z_aload_n C dX0_kindAt_8 rfl 0 rfl ?_
    refine z_get (ref := "SecretBroker$Audit") (v := .ref (a0 1)) C hX0_kindAt_X0 0 rfl rfl 0 (by decide) kX0_kindAt_9 (fun _ h9 => h9) rfl dX0_kindAt_9 ?_
    refine z_iload_n C dX0_kindAt_12 rfl 1 rfl ?_
    obtain ⟨g3, hF⟩ := zix_some hF
    refine z_iald (v := ((U 0) x1.toNatClampNeg)) C g3 1 rfl rfl rfl dX0_kindAt_13 ?_
    refine z_goto (tgt := 18) C dX0_kindAt_14 (by decide) ?_
    have hu := Option.some.inj hF
    subst hu
    exact z_iret C dX0_kindAt_18 rfl rfl
theorem kX0_subjectAt_15 : Cond.fieldLink RX0 15 "SecretBroker$Audit" "subjects" "[I" ∈ wsX0_subjectAt := by decide +kernel
theorem hX0_subjectAt_X0 : ∀ w ∈ wsX00, w ∈ wsX0_subjectAt := by decide +kernel
set_option maxHeartbeats 4000000 in
set_option maxRecDepth 100000 in
theorem c_X0_subjectAt (l : Launch) (D : va_G) (cI cJ cZ : ClassId) (a0 : Nat → Nat) (U : SS) (L : SL) (x1 : Int32) (u : Int32) (hF : f_X0_subjectAt U x1 = some u) : zM l yX0_subjectAt wsX0_subjectAt ({ frames := 1, cells := 0, slots := 0, locals := 21 }) D (zTy cI cJ cZ) [.ref (a0 0), .int x1] (zwX0 cI cJ cZ a0 U L) (some (.int u)) (zwX0 cI cJ cZ a0 U L) := by
  refine z_body (cc := cX0_subjectAt) (maxL := 2) (rty := (some .int)) (own := RX0) (lv := [(0, .ref (a0 0)), (1, .int x1)]) (by decide +kernel) rfl rfl (Nat.le_of_ble_eq_true rfl) rfl (fun p e s m args below meth c A C => ?_)
  refine z_aload_n C dX0_subjectAt_0 rfl 0 rfl ?_
  refine z_iload_n C dX0_subjectAt_1 rfl 1 rfl ?_
  obtain ⟨r1, er1, hF⟩ := zbd hF
  refine z_callV (n := 1) (As := [.int x1]) (ws' := (zwX0 cI cJ cZ a0 U L)) C (c_X0_has l D cI cJ cZ a0 U L x1 r1 er1) gX0_subjectAt_X0_has rfl rfl rfl (by decide +kernel) ⟨Nat.le_of_ble_eq_true rfl, Nat.le_of_ble_eq_true rfl⟩ ⟨Nat.zero_le _, Nat.zero_le _⟩ 0 rfl rfl [] [] rfl rfl rfl rfl (Nat.le_of_ble_eq_true rfl) dX0_subjectAt_2 ?_
  refine z_if_eq (tgt := 17) C dX0_subjectAt_5 (by decide) (fun c2 => ?_) (fun c2 => ?_)
  · have hF := zif hF c2
    refine z_iconst (v := 0) C dX0_subjectAt_17 (by decide) ?_
    have hu := Option.some.inj hF
    subst hu
    exact z_iret C dX0_subjectAt_18 rfl rfl
  · have hF := zelse hF c2
    refine z_aload_n C dX0_subjectAt_8 rfl 0 rfl ?_
    refine z_get (ref := "SecretBroker$Audit") (v := .ref (a0 2)) C hX0_subjectAt_X0 0 rfl rfl 1 (by decide) kX0_subjectAt_15 (fun _ h9 => h9) rfl dX0_subjectAt_9 ?_
    refine z_iload_n C dX0_subjectAt_12 rfl 1 rfl ?_
    obtain ⟨g3, hF⟩ := zix_some hF
    refine z_iald (v := ((U 1) x1.toNatClampNeg)) C g3 2 rfl rfl rfl dX0_subjectAt_13 ?_
    refine z_goto (tgt := 18) C dX0_subjectAt_14 (by decide) ?_
    have hu := Option.some.inj hF
    subst hu
    exact z_iret C dX0_subjectAt_18 rfl rfl
theorem kX0_detailAt_18 : Cond.fieldLink RX0 18 "SecretBroker$Audit" "details" "[I" ∈ wsX0_detailAt := by decide +kernel
theorem hX0_detailAt_X0 : ∀ w ∈ wsX00, w ∈ wsX0_detailAt := by decide +kernel
set_option maxHeartbeats 4000000 in
set_option maxRecDepth 100000 in
theorem c_X0_detailAt (l : Launch) (D : va_G) (cI cJ cZ : ClassId) (a0 : Nat → Nat) (U : SS) (L : SL) (x1 : Int32) (u : Int32) (hF : f_X0_detailAt U x1 = some u) : zM l yX0_detailAt wsX0_detailAt ({ frames := 1, cells := 0, slots := 0, locals := 21 }) D (zTy cI cJ cZ) [.ref (a0 0), .int x1] (zwX0 cI cJ cZ a0 U L) (some (.int u)) (zwX0 cI cJ cZ a0 U L) := by
  refine z_body (cc := cX0_detailAt) (maxL := 2) (rty := (some .int)) (own := RX0) (lv := [(0, .ref (a0 0)), (1, .int x1)]) (by decide +kernel) rfl rfl (Nat.le_of_ble_eq_true rfl) rfl (fun p e s m args below meth c A C => ?_)
  refine z_aload_n C dX0_detailAt_0 rfl 0 rfl ?_
  refine z_iload_n C dX0_detailAt_1 rfl 1 rfl ?_
  obtain ⟨r1, er1, hF⟩ := zbd hF
  refine z_callV (n := 1) (As := [.int x1]) (ws' := (zwX0 cI cJ cZ a0 U L)) C (c_X0_has l D cI cJ cZ a0 U L x1 r1 er1) gX0_detailAt_X0_has rfl rfl rfl (by decide +kernel) ⟨Nat.le_of_ble_eq_true rfl, Nat.le_of_ble_eq_true rfl⟩ ⟨Nat.zero_le _, Nat.zero_le _⟩ 0 rfl rfl [] [] rfl rfl rfl rfl (Nat.le_of_ble_eq_true rfl) dX0_detailAt_2 ?_
  refine z_if_eq (tgt := 17) C dX0_detailAt_5 (by decide) (fun c2 => ?_) (fun c2 => ?_)
  · have hF := zif hF c2
    refine z_iconst (v := 0) C dX0_detailAt_17 (by decide) ?_
    have hu := Option.some.inj hF
    subst hu
    exact z_iret C dX0_detailAt_18 rfl rfl
  · have hF := zelse hF c2
    refine z_aload_n C dX0_detailAt_8 rfl 0 rfl ?_
    refine z_get (ref := "SecretBroker$Audit") (v := .ref (a0 3)) C hX0_detailAt_X0 0 rfl rfl 2 (by decide) kX0_detailAt_18 (fun _ h9 => h9) rfl dX0_detailAt_9 ?_
    refine z_iload_n C dX0_detailAt_12 rfl 1 rfl ?_
    obtain ⟨g3, hF⟩ := zix_some hF
    refine z_iald (v := ((U 2) x1.toNatClampNeg)) C g3 3 rfl rfl rfl dX0_detailAt_13 ?_
    refine z_goto (tgt := 18) C dX0_detailAt_14 (by decide) ?_
    have hu := Option.some.inj hF
    subst hu
    exact z_iret C dX0_detailAt_18 rfl rfl
theorem kX0_sumAt_21 : Cond.fieldLink RX0 21 "SecretBroker$Audit" "sums" "[J" ∈ wsX0_sumAt := by decide +kernel
theorem hX0_sumAt_X0 : ∀ w ∈ wsX00, w ∈ wsX0_sumAt := by decide +kernel
set_option maxHeartbeats 4000000 in
set_option maxRecDepth 100000 in
theorem c_X0_sumAt (l : Launch) (D : va_G) (cI cJ cZ : ClassId) (a0 : Nat → Nat) (U : SS) (L : SL) (x1 : Int32) (u : Int64) (hF : f_X0_sumAt U L x1 = some u) : zM l yX0_sumAt wsX0_sumAt ({ frames := 1, cells := 0, slots := 0, locals := 21 }) D (zTy cI cJ cZ) [.ref (a0 0), .int x1] (zwX0 cI cJ cZ a0 U L) (some (.long u)) (zwX0 cI cJ cZ a0 U L) := by
  refine z_body (cc := cX0_sumAt) (maxL := 2) (rty := (some .long)) (own := RX0) (lv := [(0, .ref (a0 0)), (1, .int x1)]) (by decide +kernel) rfl rfl (Nat.le_of_ble_eq_true rfl) rfl (fun p e s m args below meth c A C => ?_)
  refine z_aload_n C dX0_sumAt_0 rfl 0 rfl ?_
  refine z_iload_n C dX0_sumAt_1 rfl 1 rfl ?_
  obtain ⟨r1, er1, hF⟩ := zbd hF
  refine z_callV (n := 1) (As := [.int x1]) (ws' := (zwX0 cI cJ cZ a0 U L)) C (c_X0_has l D cI cJ cZ a0 U L x1 r1 er1) gX0_sumAt_X0_has rfl rfl rfl (by decide +kernel) ⟨Nat.le_of_ble_eq_true rfl, Nat.le_of_ble_eq_true rfl⟩ ⟨Nat.zero_le _, Nat.zero_le _⟩ 0 rfl rfl [] [] rfl rfl rfl rfl (Nat.le_of_ble_eq_true rfl) dX0_sumAt_2 ?_
  refine z_if_eq (tgt := 17) C dX0_sumAt_5 (by decide) (fun c2 => ?_) (fun c2 => ?_)
  · have hF := zif hF c2
    refine z_lconst (v := 0) C dX0_sumAt_17 (by decide) ?_
    have hu := Option.some.inj hF
    subst hu
    exact z_lret C dX0_sumAt_18 rfl
  · have hF := zelse hF c2
    refine z_aload_n C dX0_sumAt_8 rfl 0 rfl ?_
    refine z_get (ref := "SecretBroker$Audit") (v := .ref (a0 4)) C hX0_sumAt_X0 0 rfl rfl 3 (by decide) kX0_sumAt_21 (fun _ h9 => h9) rfl dX0_sumAt_9 ?_
    refine z_iload_n C dX0_sumAt_12 rfl 1 rfl ?_
    obtain ⟨g3, hF⟩ := zix_some hF
    refine z_lald (v := (L x1.toNatClampNeg)) C g3 4 rfl rfl rfl dX0_sumAt_13 ?_
    refine z_goto (tgt := 18) C dX0_sumAt_14 (by decide) ?_
    have hu := Option.some.inj hF
    subst hu
    exact z_lret C dX0_sumAt_18 rfl
theorem kX2_has_25 : Cond.fieldLink RX2 25 "SecretBroker$Leased" "made" "I" ∈ wsX2_has := by decide +kernel
theorem hX2_has_X1 : ∀ w ∈ wsX10, w ∈ wsX2_has := by decide +kernel
set_option maxHeartbeats 4000000 in
set_option maxRecDepth 100000 in
theorem c_X2_has_1 (l : Launch) (D : va_G) (cI cJ cZ : ClassId) (a1 : Nat → Nat) (K : SS) (x1 : Int32) (u : Int32) (hF : f_X2_has K x1 = some u) : zM l yX2_has wsX2_has ({ frames := 0, cells := 0, slots := 0, locals := 0 }) D (zTy cI cJ cZ) [.ref (a1 0), .int x1] (zwX1 cI cJ cZ a1 K) (some (.int u)) (zwX1 cI cJ cZ a1 K) := by
  refine z_body (cc := cX2_has) (maxL := 2) (rty := (some .boolean)) (own := RX2) (lv := [(0, .ref (a1 0)), (1, .int x1)]) (by decide +kernel) rfl rfl (Nat.le_of_ble_eq_true rfl) rfl (fun p e s m args below meth c A C => ?_)
  refine z_iload_n C dX2_has_0 rfl 1 rfl ?_
  refine z_if_lt (tgt := 16) C dX2_has_1 (by decide) (fun c1 => ?_) (fun c1 => ?_)
  · have hF := zif hF c1
    refine z_iconst (v := 0) C dX2_has_16 (by decide) ?_
    have hu := Option.some.inj hF
    subst hu
    exact z_iret C dX2_has_17 rfl z_b0
  · have hF := zelse hF c1
    refine z_iload_n C dX2_has_4 rfl 1 rfl ?_
    refine z_aload_n C dX2_has_5 rfl 0 rfl ?_
    refine z_get (ref := "SecretBroker$Leased") (v := .int (K 4 0)) C hX2_has_X1 0 rfl rfl 4 (by decide) kX2_has_25 (fun _ h9 => h9) rfl dX2_has_6 ?_
    refine z_icmp_ge (tgt := 16) C dX2_has_9 (by decide) (fun c2 => ?_) (fun c2 => ?_)
    · have hF := zif hF c2
      refine z_iconst (v := 0) C dX2_has_16 (by decide) ?_
      have hu := Option.some.inj hF
      subst hu
      exact z_iret C dX2_has_17 rfl z_b0
    · have hF := zelse hF c2
      refine z_iconst (v := 1) C dX2_has_12 (by decide) ?_
      refine z_goto (tgt := 17) C dX2_has_13 (by decide) ?_
      have hu := Option.some.inj hF
      subst hu
      exact z_iret C dX2_has_17 rfl z_b1
theorem kX1_describe_9 : Cond.fieldLink RX1 9 "SecretBroker$Credentials" "owners" "[I" ∈ wsX1_describe := by decide +kernel
theorem kX1_describe_15 : Cond.fieldLink RX1 15 "SecretBroker$Credentials" "paths" "[I" ∈ wsX1_describe := by decide +kernel
theorem hX1_describe_X1 : ∀ w ∈ wsX10, w ∈ wsX1_describe := by decide +kernel
set_option maxHeartbeats 4000000 in
set_option maxRecDepth 100000 in
theorem c_X1_describe (l : Launch) (D : va_G) (cI cJ cZ : ClassId) (a1 : Nat → Nat) (K : SS) (x1 : Int32) (x2 : Int32) (x3 : Int32) (u : SS) (hF : f_X1_describe K x1 x2 x3 = some u) : zM l yX1_describe wsX1_describe ({ frames := 1, cells := 0, slots := 0, locals := 21 }) D (zTy cI cJ cZ) [.ref (a1 0), .int x1, .int x2, .int x3] (zwX1 cI cJ cZ a1 K) none (zwX1 cI cJ cZ a1 u) := by
  refine z_body (cc := cX1_describe) (maxL := 4) (rty := none) (own := RX1) (lv := [(0, .ref (a1 0)), (1, .int x1), (2, .int x2), (3, .int x3)]) (by decide +kernel) rfl rfl (Nat.le_of_ble_eq_true rfl) rfl (fun p e s m args below meth c A C => ?_)
  refine z_aload_n C dX1_describe_0 rfl 0 rfl ?_
  refine z_iload_n C dX1_describe_1 rfl 1 rfl ?_
  obtain ⟨r1, er1, hF⟩ := zbd hF
  refine z_callU (n := 1) (As := [.int x1]) (ws' := (zwX1 cI cJ cZ a1 K)) C (c_X2_has_1 l D cI cJ cZ a1 K x1 r1 er1) gX1_describe_X2_has_u18X1 rfl rfl rfl rfl (by decide +kernel) ⟨Nat.le_of_ble_eq_true rfl, Nat.le_of_ble_eq_true rfl⟩ ⟨Nat.zero_le _, Nat.zero_le _⟩ 0 rfl rfl [] [] rfl rfl rfl rfl (Nat.le_of_ble_eq_true rfl) dX1_describe_2 ?_
  refine z_if_eq (tgt := 22) C dX1_describe_5 (by decide) (fun c2 => ?_) (fun c2 => ?_)
  · have hF := zif hF c2
    have hu := Option.some.inj hF
    subst hu
    exact z_vret C dX1_describe_22 rfl
  · have hF := zelse hF c2
    refine z_aload_n C dX1_describe_8 rfl 0 rfl ?_
    refine z_get (ref := "SecretBroker$Credentials") (v := .ref (a1 5)) C hX1_describe_X1 0 rfl rfl 6 (by decide) kX1_describe_9 (fun _ h9 => h9) rfl dX1_describe_9 ?_
    refine z_iload_n C dX1_describe_12 rfl 1 rfl ?_
    refine z_iload_n C dX1_describe_13 rfl 2 rfl ?_
    obtain ⟨g3, hF⟩ := zix_some hF
    refine z_iast (ws' := (zwX1 cI cJ cZ a1 (za K 6 x1 x2))) C g3 5 rfl rfl dX1_describe_14 (za_row K 6 x1 x2) (zr_X1_6 cI cJ cZ a1 K x1 x2) ?_
    refine z_aload_n C dX1_describe_15 rfl 0 rfl ?_
    refine z_get (ref := "SecretBroker$Credentials") (v := .ref (a1 6)) C hX1_describe_X1 0 rfl rfl 7 (by decide) kX1_describe_15 (fun _ h9 => h9) rfl dX1_describe_16 ?_
    refine z_iload_n C dX1_describe_19 rfl 1 rfl ?_
    refine z_iload_n C dX1_describe_20 rfl 3 rfl ?_
    obtain ⟨g4, hF⟩ := zix_some hF
    refine z_iast (ws' := (zwX1 cI cJ cZ a1 (za (za K 6 x1 x2) 7 x1 x3))) C g4 6 rfl rfl dX1_describe_21 (za_row (za K 6 x1 x2) 7 x1 x3) (zr_X1_7 cI cJ cZ a1 (za K 6 x1 x2) x1 x3) ?_
    have hu := Option.some.inj hF
    subst hu
    exact z_vret C dX1_describe_22 rfl
theorem kX1_ownerAt_9 : Cond.fieldLink RX1 9 "SecretBroker$Credentials" "owners" "[I" ∈ wsX1_ownerAt := by decide +kernel
theorem hX1_ownerAt_X1 : ∀ w ∈ wsX10, w ∈ wsX1_ownerAt := by decide +kernel
set_option maxHeartbeats 4000000 in
set_option maxRecDepth 100000 in
theorem c_X1_ownerAt (l : Launch) (D : va_G) (cI cJ cZ : ClassId) (a1 : Nat → Nat) (K : SS) (x1 : Int32) (u : Int32) (hF : f_X1_ownerAt K x1 = some u) : zM l yX1_ownerAt wsX1_ownerAt ({ frames := 1, cells := 0, slots := 0, locals := 21 }) D (zTy cI cJ cZ) [.ref (a1 0), .int x1] (zwX1 cI cJ cZ a1 K) (some (.int u)) (zwX1 cI cJ cZ a1 K) := by
  refine z_body (cc := cX1_ownerAt) (maxL := 2) (rty := (some .int)) (own := RX1) (lv := [(0, .ref (a1 0)), (1, .int x1)]) (by decide +kernel) rfl rfl (Nat.le_of_ble_eq_true rfl) rfl (fun p e s m args below meth c A C => ?_)
  refine z_aload_n C dX1_ownerAt_0 rfl 0 rfl ?_
  refine z_iload_n C dX1_ownerAt_1 rfl 1 rfl ?_
  obtain ⟨r1, er1, hF⟩ := zbd hF
  refine z_callU (n := 1) (As := [.int x1]) (ws' := (zwX1 cI cJ cZ a1 K)) C (c_X2_has_1 l D cI cJ cZ a1 K x1 r1 er1) gX1_ownerAt_X2_has_u18X1 rfl rfl rfl rfl (by decide +kernel) ⟨Nat.le_of_ble_eq_true rfl, Nat.le_of_ble_eq_true rfl⟩ ⟨Nat.zero_le _, Nat.zero_le _⟩ 0 rfl rfl [] [] rfl rfl rfl rfl (Nat.le_of_ble_eq_true rfl) dX1_ownerAt_2 ?_
  refine z_if_eq (tgt := 17) C dX1_ownerAt_5 (by decide) (fun c2 => ?_) (fun c2 => ?_)
  · have hF := zif hF c2
    refine z_iconst (v := (-1)) C dX1_ownerAt_17 (by decide) ?_
    have hu := Option.some.inj hF
    subst hu
    exact z_iret C dX1_ownerAt_18 rfl rfl
  · have hF := zelse hF c2
    refine z_aload_n C dX1_ownerAt_8 rfl 0 rfl ?_
    refine z_get (ref := "SecretBroker$Credentials") (v := .ref (a1 5)) C hX1_ownerAt_X1 0 rfl rfl 6 (by decide) kX1_ownerAt_9 (fun _ h9 => h9) rfl dX1_ownerAt_9 ?_
    refine z_iload_n C dX1_ownerAt_12 rfl 1 rfl ?_
    obtain ⟨g3, hF⟩ := zix_some hF
    refine z_iald (v := ((K 6) x1.toNatClampNeg)) C g3 5 rfl rfl rfl dX1_ownerAt_13 ?_
    refine z_goto (tgt := 18) C dX1_ownerAt_14 (by decide) ?_
    have hu := Option.some.inj hF
    subst hu
    exact z_iret C dX1_ownerAt_18 rfl rfl
theorem kX2_made_25 : Cond.fieldLink RX2 25 "SecretBroker$Leased" "made" "I" ∈ wsX2_made := by decide +kernel
theorem hX2_made_X1 : ∀ w ∈ wsX10, w ∈ wsX2_made := by decide +kernel
set_option maxHeartbeats 4000000 in
set_option maxRecDepth 100000 in
theorem c_X2_made_1 (l : Launch) (D : va_G) (cI cJ cZ : ClassId) (a1 : Nat → Nat) (K : SS) (u : Int32) (hF : f_X2_made K = some u) : zM l yX2_made wsX2_made ({ frames := 0, cells := 0, slots := 0, locals := 0 }) D (zTy cI cJ cZ) [.ref (a1 0)] (zwX1 cI cJ cZ a1 K) (some (.int u)) (zwX1 cI cJ cZ a1 K) := by
  refine z_body (cc := cX2_made) (maxL := 1) (rty := (some .int)) (own := RX2) (lv := [(0, .ref (a1 0))]) (by decide +kernel) rfl rfl (Nat.le_of_ble_eq_true rfl) rfl (fun p e s m args below meth c A C => ?_)
  refine z_aload_n C dX2_made_0 rfl 0 rfl ?_
  refine z_get (ref := "SecretBroker$Leased") (v := .int (K 4 0)) C hX2_made_X1 0 rfl rfl 4 (by decide) kX2_made_25 (fun _ h9 => h9) rfl dX2_made_1 ?_
  have hu := Option.some.inj hF
  subst hu
  exact z_iret C dX2_made_4 rfl rfl
theorem kX2_isOn_21 : Cond.fieldLink RX2 21 "SecretBroker$Leased" "on" "[Z" ∈ wsX2_isOn := by decide +kernel
theorem hX2_isOn_X1 : ∀ w ∈ wsX10, w ∈ wsX2_isOn := by decide +kernel
set_option maxHeartbeats 4000000 in
set_option maxRecDepth 100000 in
theorem c_X2_isOn_1 (l : Launch) (D : va_G) (cI cJ cZ : ClassId) (a1 : Nat → Nat) (K : SS) (x1 : Int32) (u : Int32) (hF : f_X2_isOn K x1 = some u) : zM l yX2_isOn wsX2_isOn ({ frames := 1, cells := 0, slots := 0, locals := 21 }) D (zTy cI cJ cZ) [.ref (a1 0), .int x1] (zwX1 cI cJ cZ a1 K) (some (.int u)) (zwX1 cI cJ cZ a1 K) := by
  refine z_body (cc := cX2_isOn) (maxL := 2) (rty := (some .boolean)) (own := RX2) (lv := [(0, .ref (a1 0)), (1, .int x1)]) (by decide +kernel) rfl rfl (Nat.le_of_ble_eq_true rfl) rfl (fun p e s m args below meth c A C => ?_)
  refine z_aload_n C dX2_isOn_0 rfl 0 rfl ?_
  refine z_iload_n C dX2_isOn_1 rfl 1 rfl ?_
  obtain ⟨r1, er1, hF⟩ := zbd hF
  refine z_callU (n := 1) (As := [.int x1]) (ws' := (zwX1 cI cJ cZ a1 K)) C (c_X2_has_1 l D cI cJ cZ a1 K x1 r1 er1) gX2_isOn_X2_has_u32X1 rfl rfl rfl rfl (by decide +kernel) ⟨Nat.le_of_ble_eq_true rfl, Nat.le_of_ble_eq_true rfl⟩ ⟨Nat.zero_le _, Nat.zero_le _⟩ 0 rfl rfl [] [] rfl rfl rfl rfl (Nat.le_of_ble_eq_true rfl) dX2_isOn_2 ?_
  refine z_if_eq (tgt := 21) C dX2_isOn_5 (by decide) (fun c2 => ?_) (fun c2 => ?_)
  · have hF := zif hF c2
    refine z_iconst (v := 0) C dX2_isOn_21 (by decide) ?_
    have hu := Option.some.inj hF
    subst hu
    exact z_iret C dX2_isOn_22 rfl z_b0
  · have hF := zelse hF c2
    refine z_aload_n C dX2_isOn_8 rfl 0 rfl ?_
    refine z_get (ref := "SecretBroker$Leased") (v := .ref (a1 4)) C hX2_isOn_X1 0 rfl rfl 3 (by decide) kX2_isOn_21 (fun _ h9 => h9) rfl dX2_isOn_9 ?_
    refine z_iload_n C dX2_isOn_12 rfl 1 rfl ?_
    obtain ⟨g3, hF⟩ := zix_some hF
    refine z_zald (v := ((K 3) x1.toNatClampNeg)) C g3 4 rfl rfl rfl dX2_isOn_13 ?_
    refine z_if_eq (tgt := 21) C dX2_isOn_14 (by decide) (fun c4 => ?_) (fun c4 => ?_)
    · have hF := zif hF c4
      refine z_iconst (v := 0) C dX2_isOn_21 (by decide) ?_
      have hu := Option.some.inj hF
      subst hu
      exact z_iret C dX2_isOn_22 rfl z_b0
    · have hF := zelse hF c4
      refine z_iconst (v := 1) C dX2_isOn_17 (by decide) ?_
      refine z_goto (tgt := 22) C dX2_isOn_18 (by decide) ?_
      have hu := Option.some.inj hF
      subst hu
      exact z_iret C dX2_isOn_22 rfl z_b1
theorem kX1_livingOf_9 : Cond.fieldLink RX1 9 "SecretBroker$Credentials" "owners" "[I" ∈ wsX1_livingOf := by decide +kernel
theorem hX1_livingOf_X1 : ∀ w ∈ wsX10, w ∈ wsX1_livingOf := by decide +kernel
set_option maxHeartbeats 4000000 in
set_option maxRecDepth 100000 in
theorem c_X1_livingOf_j4 (l : Launch) (D : va_G) (cI cJ cZ : ClassId) (a1 : Nat → Nat) (K : SS) (u : Int32) {p : Program} {e : Env} {s : State} {m : MethodId} {args : Array Value} {below : List Frame} {meth : Method} {c : Code} {A : Nat → Prop} (C : zC p s m args meth c cX1_livingOf 4 (some .int) RX1 wsX1_livingOf D (zTy cI cJ cZ) A s.heap) : ∀ (n : Nat) (v1 : Int32) (v2 : Int32) (v3 : Int32), f_X1_livingOf_4 K n v1 v2 v3 = some u → zW p l e { frames := 2, cells := 0, slots := 0, locals := 42 } s m args below meth c 4 D A s.heap 0 0 (MQ below (zQ D (zTy cI cJ cZ) (some (.int u)) (zwX1 cI cJ cZ a1 K) A) args s 0 0 A) (zwX1 cI cJ cZ a1 K) [(0, .ref (a1 0)), (1, .int v1), (2, .int v2), (3, .int v3)] 4 [] := by
  intro n
  induction n with
  | zero => intro v1 v2 v3 hF; exact absurd (show none = some u from hF) (fun q => nomatch q)
  | succ n ih =>
    intro v1 v2 v3 hF
    refine z_iload_n C dX1_livingOf_4 rfl 3 rfl ?_
    refine z_aload_n C dX1_livingOf_5 rfl 0 rfl ?_
    obtain ⟨r1, er1, hF⟩ := zbd hF
    refine z_callU (n := 0) (As := []) (ws' := (zwX1 cI cJ cZ a1 K)) C (c_X2_made_1 l D cI cJ cZ a1 K r1 er1) gX1_livingOf_X2_made_u22X1 rfl rfl rfl rfl (by decide +kernel) ⟨Nat.le_of_ble_eq_true rfl, Nat.le_of_ble_eq_true rfl⟩ ⟨Nat.zero_le _, Nat.zero_le _⟩ 0 rfl rfl [] [] rfl rfl rfl rfl (Nat.le_of_ble_eq_true rfl) dX1_livingOf_6 ?_
    refine z_icmp_ge (tgt := 39) C dX1_livingOf_9 (by decide) (fun c2 => ?_) (fun c2 => ?_)
    · have hF := zif hF c2
      refine z_iload_n C dX1_livingOf_39 rfl 2 rfl ?_
      have hu := Option.some.inj hF
      subst hu
      exact z_iret C dX1_livingOf_40 rfl rfl
    · have hF := zelse hF c2
      refine z_aload_n C dX1_livingOf_12 rfl 0 rfl ?_
      refine z_get (ref := "SecretBroker$Credentials") (v := .ref (a1 5)) C hX1_livingOf_X1 0 rfl rfl 6 (by decide) kX1_livingOf_9 (fun _ h9 => h9) rfl dX1_livingOf_13 ?_
      refine z_iload_n C dX1_livingOf_16 rfl 3 rfl ?_
      obtain ⟨g3, hF⟩ := zix_some hF
      refine z_iald (v := ((K 6) v3.toNatClampNeg)) C g3 5 rfl rfl rfl dX1_livingOf_17 ?_
      refine z_iload_n C dX1_livingOf_18 rfl 1 rfl ?_
      refine z_icmp_ne (tgt := 33) C dX1_livingOf_19 (by decide) (fun c4 => ?_) (fun c4 => ?_)
      · have hF := zelse hF c4
        refine z_iinc (v := (v3 + 1)) (lv' := [(3, .int (v3 + 1)), (0, .ref (a1 0)), (1, .int v1), (2, .int v2)]) C dX1_livingOf_33 3 rfl rfl (by decide) rfl ?_
        refine z_goto (tgt := 4) C dX1_livingOf_36 (by decide) ?_
        exact z_sub C [1, 2, 3, 0] rfl (ih v1 v2 (v3 + 1) hF)
      · have hF := zif hF c4
        refine z_aload_n C dX1_livingOf_22 rfl 0 rfl ?_
        refine z_iload_n C dX1_livingOf_23 rfl 3 rfl ?_
        obtain ⟨r5, er5, hF⟩ := zbd hF
        refine z_callU (n := 1) (As := [.int v3]) (ws' := (zwX1 cI cJ cZ a1 K)) C (c_X2_isOn_1 l D cI cJ cZ a1 K v3 r5 er5) gX1_livingOf_X2_isOn_u26X1 rfl rfl rfl rfl (by decide +kernel) ⟨Nat.le_of_ble_eq_true rfl, Nat.le_of_ble_eq_true rfl⟩ ⟨Nat.zero_le _, Nat.zero_le _⟩ 0 rfl rfl [] [] rfl rfl rfl rfl (Nat.le_of_ble_eq_true rfl) dX1_livingOf_24 ?_
        refine z_if_eq (tgt := 33) C dX1_livingOf_27 (by decide) (fun c6 => ?_) (fun c6 => ?_)
        · have hF := zif hF c6
          refine z_iinc (v := (v3 + 1)) (lv' := [(3, .int (v3 + 1)), (0, .ref (a1 0)), (1, .int v1), (2, .int v2)]) C dX1_livingOf_33 3 rfl rfl (by decide) rfl ?_
          refine z_goto (tgt := 4) C dX1_livingOf_36 (by decide) ?_
          exact z_sub C [1, 2, 3, 0] rfl (ih v1 v2 (v3 + 1) hF)
        · have hF := zelse hF c6
          refine z_iinc (v := (v2 + 1)) (lv' := [(2, .int (v2 + 1)), (0, .ref (a1 0)), (1, .int v1), (3, .int v3)]) C dX1_livingOf_30 2 rfl rfl (by decide) rfl ?_
          refine z_iinc (v := (v3 + 1)) (lv' := [(3, .int (v3 + 1)), (2, .int (v2 + 1)), (0, .ref (a1 0)), (1, .int v1)]) C dX1_livingOf_33 3 rfl rfl (by decide) rfl ?_
          refine z_goto (tgt := 4) C dX1_livingOf_36 (by decide) ?_
          exact z_sub C [2, 3, 1, 0] rfl (ih v1 (v2 + 1) (v3 + 1) hF)
set_option maxHeartbeats 4000000 in
set_option maxRecDepth 100000 in
theorem c_X1_livingOf (l : Launch) (D : va_G) (cI cJ cZ : ClassId) (a1 : Nat → Nat) (K : SS) (x1 : Int32) (u : Int32) (hF : f_X1_livingOf K x1 = some u) : zM l yX1_livingOf wsX1_livingOf ({ frames := 2, cells := 0, slots := 0, locals := 42 }) D (zTy cI cJ cZ) [.ref (a1 0), .int x1] (zwX1 cI cJ cZ a1 K) (some (.int u)) (zwX1 cI cJ cZ a1 K) := by
  refine z_body (cc := cX1_livingOf) (maxL := 4) (rty := (some .int)) (own := RX1) (lv := [(0, .ref (a1 0)), (1, .int x1)]) (by decide +kernel) rfl rfl (Nat.le_of_ble_eq_true rfl) rfl (fun p e s m args below meth c A C => ?_)
  refine z_iconst (v := 0) C dX1_livingOf_0 (by decide) ?_
  refine z_istore_n (lv' := [(2, .int 0), (0, .ref (a1 0)), (1, .int x1)]) C dX1_livingOf_1 rfl (by decide) rfl ?_
  refine z_iconst (v := 0) C dX1_livingOf_2 (by decide) ?_
  refine z_istore_n (lv' := [(3, .int 0), (2, .int 0), (0, .ref (a1 0)), (1, .int x1)]) C dX1_livingOf_3 rfl (by decide) rfl ?_
  exact z_sub C [2, 3, 1, 0] rfl (c_X1_livingOf_j4 l D cI cJ cZ a1 K u C 600 x1 0 0 hF)
set_option maxHeartbeats 4000000 in
set_option maxRecDepth 100000 in
theorem c_X4_length_j6 (l : Launch) (D : va_G) (cI cJ cZ : ClassId) (u : Int32) {p : Program} {e : Env} {s : State} {m : MethodId} {args : Array Value} {below : List Frame} {meth : Method} {c : Code} {A : Nat → Prop} (C : zC p s m args meth c cX4_length 4 (some .int) RX4 wsX4_length D (zTy cI cJ cZ) A s.heap) : ∀ (n : Nat) (v1 : Int32) (v2 : Int32) (v3 : Int32), f_X4_length_6 n v1 v2 v3 = some u → zW p l e { frames := 0, cells := 0, slots := 0, locals := 0 } s m args below meth c 4 D A s.heap 0 0 (MQ below (zQ D (zTy cI cJ cZ) (some (.int u)) [] A) args s 0 0 A) [] [(1, .int v1), (2, .int v2), (3, .int v3)] 6 [] := by
  intro n
  induction n with
  | zero => intro v1 v2 v3 hF; exact absurd (show none = some u from hF) (fun q => nomatch q)
  | succ n ih =>
    intro v1 v2 v3 hF
    refine z_iload_n C dX4_length_6 rfl 2 rfl ?_
    refine z_bipush (v := 6) C dX4_length_7 (by decide) ?_
    refine z_icmp_ge (tgt := 30) C dX4_length_9 (by decide) (fun c1 => ?_) (fun c1 => ?_)
    · have hF := zif hF c1
      refine z_iload_n C dX4_length_30 rfl 0 rfl ?_
      have hu := Option.some.inj hF
      subst hu
      exact z_iret C dX4_length_31 rfl rfl
    · have hF := zelse hF c1
      refine z_iload_n C dX4_length_12 rfl 1 rfl ?_
      refine z_if_le (tgt := 30) C dX4_length_13 (by decide) (fun c2 => ?_) (fun c2 => ?_)
      · have hF := zif hF c2
        refine z_iload_n C dX4_length_30 rfl 0 rfl ?_
        have hu := Option.some.inj hF
        subst hu
        exact z_iret C dX4_length_31 rfl rfl
      · have hF := zelse hF c2
        refine z_iinc (v := (v1 + 1)) (lv' := [(1, .int (v1 + 1)), (2, .int v2), (3, .int v3)]) C dX4_length_16 0 rfl rfl (by decide) rfl ?_
        refine z_iload_n C dX4_length_19 rfl 1 rfl ?_
        refine z_bipush (v := 10) C dX4_length_20 (by decide) ?_
        refine z_idiv C dX4_length_22 (by decide) ?_
        refine z_istore_n (lv' := [(2, .int (v2 / 10)), (1, .int (v1 + 1)), (3, .int v3)]) C dX4_length_23 rfl (by decide) rfl ?_
        refine z_iinc (v := (v3 + 1)) (lv' := [(3, .int (v3 + 1)), (2, .int (v2 / 10)), (1, .int (v1 + 1))]) C dX4_length_24 2 rfl rfl (by decide) rfl ?_
        refine z_goto (tgt := 6) C dX4_length_27 (by decide) ?_
        exact z_sub C [2, 1, 0] rfl (ih (v1 + 1) (v2 / 10) (v3 + 1) hF)
set_option maxHeartbeats 4000000 in
set_option maxRecDepth 100000 in
theorem c_X4_length (l : Launch) (D : va_G) (cI cJ cZ : ClassId) (x1 : Int32) (u : Int32) (hF : f_X4_length x1 = some u) : zM l yX4_length wsX4_length ({ frames := 0, cells := 0, slots := 0, locals := 0 }) D (zTy cI cJ cZ) [.int x1] [] (some (.int u)) [] := by
  refine z_body (cc := cX4_length) (maxL := 4) (rty := (some .int)) (own := RX4) (lv := [(0, .int x1)]) (by decide +kernel) rfl rfl (Nat.le_of_ble_eq_true rfl) rfl (fun p e s m args below meth c A C => ?_)
  refine z_iconst (v := 0) C dX4_length_0 (by decide) ?_
  refine z_istore_n (lv' := [(1, .int 0), (0, .int x1)]) C dX4_length_1 rfl (by decide) rfl ?_
  refine z_iload_n C dX4_length_2 rfl 1 rfl ?_
  refine z_istore_n (lv' := [(2, .int x1), (1, .int 0), (0, .int x1)]) C dX4_length_3 rfl (by decide) rfl ?_
  refine z_iconst (v := 0) C dX4_length_4 (by decide) ?_
  refine z_istore_n (lv' := [(3, .int 0), (2, .int x1), (1, .int 0), (0, .int x1)]) C dX4_length_5 rfl (by decide) rfl ?_
  exact z_sub C [2, 1, 0] rfl (c_X4_length_j6 l D cI cJ cZ u C 600 0 x1 0 hF)
set_option maxHeartbeats 4000000 in
set_option maxRecDepth 100000 in
theorem c_X4_withoutLast_j4 (l : Launch) (D : va_G) (cI cJ cZ : ClassId) (u : Int32) {p : Program} {e : Env} {s : State} {m : MethodId} {args : Array Value} {below : List Frame} {meth : Method} {c : Code} {A : Nat → Prop} (C : zC p s m args meth c cX4_withoutLast 4 (some .int) RX4 wsX4_withoutLast D (zTy cI cJ cZ) A s.heap) : ∀ (n : Nat) (v1 : Int32) (v2 : Int32) (v3 : Int32), f_X4_withoutLast_4 n v1 v2 v3 = some u → zW p l e { frames := 0, cells := 0, slots := 0, locals := 0 } s m args below meth c 4 D A s.heap 0 0 (MQ below (zQ D (zTy cI cJ cZ) (some (.int u)) [] A) args s 0 0 A) [] [(1, .int v1), (2, .int v2), (3, .int v3)] 4 [] := by
  intro n
  induction n with
  | zero => intro v1 v2 v3 hF; exact absurd (show none = some u from hF) (fun q => nomatch q)
  | succ n ih =>
    intro v1 v2 v3 hF
    refine z_iload_n C dX4_withoutLast_4 rfl 2 rfl ?_
    refine z_iload_n C dX4_withoutLast_5 rfl 0 rfl ?_
    refine z_icmp_ge (tgt := 20) C dX4_withoutLast_6 (by decide) (fun c1 => ?_) (fun c1 => ?_)
    · have hF := zif hF c1
      refine z_iload_n C dX4_withoutLast_20 rfl 1 rfl ?_
      have hu := Option.some.inj hF
      subst hu
      exact z_iret C dX4_withoutLast_21 rfl rfl
    · have hF := zelse hF c1
      refine z_iload_n C dX4_withoutLast_9 rfl 1 rfl ?_
      refine z_bipush (v := 10) C dX4_withoutLast_10 (by decide) ?_
      refine z_idiv C dX4_withoutLast_12 (by decide) ?_
      refine z_istore_n (lv' := [(2, .int (v2 / 10)), (1, .int v1), (3, .int v3)]) C dX4_withoutLast_13 rfl (by decide) rfl ?_
      refine z_iinc (v := (v3 + 1)) (lv' := [(3, .int (v3 + 1)), (2, .int (v2 / 10)), (1, .int v1)]) C dX4_withoutLast_14 2 rfl rfl (by decide) rfl ?_
      refine z_goto (tgt := 4) C dX4_withoutLast_17 (by decide) ?_
      exact z_sub C [2, 1, 0] rfl (ih v1 (v2 / 10) (v3 + 1) hF)
set_option maxHeartbeats 4000000 in
set_option maxRecDepth 100000 in
theorem c_X4_withoutLast (l : Launch) (D : va_G) (cI cJ cZ : ClassId) (x1 : Int32) (x2 : Int32) (u : Int32) (hF : f_X4_withoutLast x1 x2 = some u) : zM l yX4_withoutLast wsX4_withoutLast ({ frames := 0, cells := 0, slots := 0, locals := 0 }) D (zTy cI cJ cZ) [.int x1, .int x2] [] (some (.int u)) [] := by
  refine z_body (cc := cX4_withoutLast) (maxL := 4) (rty := (some .int)) (own := RX4) (lv := [(0, .int x1), (1, .int x2)]) (by decide +kernel) rfl rfl (Nat.le_of_ble_eq_true rfl) rfl (fun p e s m args below meth c A C => ?_)
  refine z_iload_n C dX4_withoutLast_0 rfl 0 rfl ?_
  refine z_istore_n (lv' := [(2, .int x1), (0, .int x1), (1, .int x2)]) C dX4_withoutLast_1 rfl (by decide) rfl ?_
  refine z_iconst (v := 0) C dX4_withoutLast_2 (by decide) ?_
  refine z_istore_n (lv' := [(3, .int 0), (2, .int x1), (0, .int x1), (1, .int x2)]) C dX4_withoutLast_3 rfl (by decide) rfl ?_
  exact z_sub C [3, 1, 0] rfl (c_X4_withoutLast_j4 l D cI cJ cZ u C 600 x2 x1 0 hF)
set_option maxHeartbeats 4000000 in
set_option maxRecDepth 100000 in
theorem c_X4_isBelow (l : Launch) (D : va_G) (cI cJ cZ : ClassId) (x1 : Int32) (x2 : Int32) (u : Int32) (hF : f_X4_isBelow x1 x2 = some u) : zM l yX4_isBelow wsX4_isBelow ({ frames := 1, cells := 0, slots := 0, locals := 23 }) D (zTy cI cJ cZ) [.int x1, .int x2] [] (some (.int u)) [] := by
  refine z_body (cc := cX4_isBelow) (maxL := 3) (rty := (some .boolean)) (own := RX4) (lv := [(0, .int x1), (1, .int x2)]) (by decide +kernel) rfl rfl (Nat.le_of_ble_eq_true rfl) rfl (fun p e s m args below meth c A C => ?_)
  refine z_iload_n C dX4_isBelow_0 rfl 0 rfl ?_
  obtain ⟨r1, er1, hF⟩ := zbd hF
  refine z_callS (n := 1) (As := [.int x1]) C (c_X4_length l D cI cJ cZ x1 r1 er1) gX4_isBelow_X4_length rfl rfl rfl (by decide +kernel) ⟨Nat.le_of_ble_eq_true rfl, Nat.le_of_ble_eq_true rfl⟩ ⟨Nat.zero_le _, Nat.zero_le _⟩ rfl rfl (Nat.le_of_ble_eq_true rfl) dX4_isBelow_1 ?_
  refine z_iload_n C dX4_isBelow_4 rfl 1 rfl ?_
  obtain ⟨r2, er2, hF⟩ := zbd hF
  refine z_callS (n := 1) (As := [.int x2]) C (c_X4_length l D cI cJ cZ x2 r2 er2) gX4_isBelow_X4_length rfl rfl rfl (by decide +kernel) ⟨Nat.le_of_ble_eq_true rfl, Nat.le_of_ble_eq_true rfl⟩ ⟨Nat.zero_le _, Nat.zero_le _⟩ rfl rfl (Nat.le_of_ble_eq_true rfl) dX4_isBelow_5 ?_
  refine z_isub C dX4_isBelow_8 ?_
  refine z_istore_n (lv' := [(2, .int (r1 - r2)), (0, .int x1), (1, .int x2)]) C dX4_isBelow_9 rfl (by decide) rfl ?_
  refine z_iload_n C dX4_isBelow_10 rfl 0 rfl ?_
  refine z_if_lt (tgt := 27) C dX4_isBelow_11 (by decide) (fun c3 => ?_) (fun c3 => ?_)
  · have hF := zif hF c3
    refine z_iconst (v := 0) C dX4_isBelow_27 (by decide) ?_
    have hu := Option.some.inj hF
    subst hu
    exact z_iret C dX4_isBelow_28 rfl z_b0
  · have hF := zelse hF c3
    refine z_iload_n C dX4_isBelow_14 rfl 1 rfl ?_
    refine z_iload_n C dX4_isBelow_15 rfl 0 rfl ?_
    obtain ⟨r4, er4, hF⟩ := zbd hF
    refine z_callS (n := 2) (As := [.int x1, .int (r1 - r2)]) C (c_X4_withoutLast l D cI cJ cZ x1 (r1 - r2) r4 er4) gX4_isBelow_X4_withoutLast rfl rfl rfl (by decide +kernel) ⟨Nat.le_of_ble_eq_true rfl, Nat.le_of_ble_eq_true rfl⟩ ⟨Nat.zero_le _, Nat.zero_le _⟩ rfl rfl (Nat.le_of_ble_eq_true rfl) dX4_isBelow_16 ?_
    refine z_iload_n C dX4_isBelow_19 rfl 2 rfl ?_
    refine z_icmp_ne (tgt := 27) C dX4_isBelow_20 (by decide) (fun c5 => ?_) (fun c5 => ?_)
    · have hF := zelse hF c5
      refine z_iconst (v := 0) C dX4_isBelow_27 (by decide) ?_
      have hu := Option.some.inj hF
      subst hu
      exact z_iret C dX4_isBelow_28 rfl z_b0
    · have hF := zif hF c5
      refine z_iconst (v := 1) C dX4_isBelow_23 (by decide) ?_
      refine z_goto (tgt := 28) C dX4_isBelow_24 (by decide) ?_
      have hu := Option.some.inj hF
      subst hu
      exact z_iret C dX4_isBelow_28 rfl z_b1
theorem kX2_end_21 : Cond.fieldLink RX2 21 "SecretBroker$Leased" "on" "[Z" ∈ wsX2_end := by decide +kernel
theorem kX2_end_29 : Cond.fieldLink RX2 29 "SecretBroker$Leased" "living" "I" ∈ wsX2_end := by decide +kernel
theorem hX2_end_X1 : ∀ w ∈ wsX10, w ∈ wsX2_end := by decide +kernel
set_option maxHeartbeats 4000000 in
set_option maxRecDepth 100000 in
theorem c_X2_end_1 (l : Launch) (D : va_G) (cI cJ cZ : ClassId) (a1 : Nat → Nat) (K : SS) (x1 : Int32) (u : Int32 × SS) (hF : f_X2_end K x1 = some u) : zM l yX2_end wsX2_end ({ frames := 2, cells := 0, slots := 0, locals := 42 }) D (zTy cI cJ cZ) [.ref (a1 0), .int x1] (zwX1 cI cJ cZ a1 K) (some (.int u.1)) (zwX1 cI cJ cZ a1 u.2) := by
  refine z_body (cc := cX2_end) (maxL := 2) (rty := (some .int)) (own := RX2) (lv := [(0, .ref (a1 0)), (1, .int x1)]) (by decide +kernel) rfl rfl (Nat.le_of_ble_eq_true rfl) rfl (fun p e s m args below meth c A C => ?_)
  refine z_aload_n C dX2_end_0 rfl 0 rfl ?_
  refine z_iload_n C dX2_end_1 rfl 1 rfl ?_
  obtain ⟨r1, er1, hF⟩ := zbd hF
  refine z_callU (n := 1) (As := [.int x1]) (ws' := (zwX1 cI cJ cZ a1 K)) C (c_X2_isOn_1 l D cI cJ cZ a1 K x1 r1 er1) gX2_end_X2_isOn_u45X1 rfl rfl rfl rfl (by decide +kernel) ⟨Nat.le_of_ble_eq_true rfl, Nat.le_of_ble_eq_true rfl⟩ ⟨Nat.zero_le _, Nat.zero_le _⟩ 0 rfl rfl [] [] rfl rfl rfl rfl (Nat.le_of_ble_eq_true rfl) dX2_end_2 ?_
  refine z_if_ne (tgt := 10) C dX2_end_5 (by decide) (fun c2 => ?_) (fun c2 => ?_)
  · have hF := zelse hF c2
    refine z_aload_n C dX2_end_10 rfl 0 rfl ?_
    refine z_get (ref := "SecretBroker$Leased") (v := .ref (a1 4)) C hX2_end_X1 0 rfl rfl 3 (by decide) kX2_end_21 (fun _ h9 => h9) rfl dX2_end_11 ?_
    refine z_iload_n C dX2_end_14 rfl 1 rfl ?_
    refine z_iconst (v := 0) C dX2_end_15 (by decide) ?_
    obtain ⟨g3, hF⟩ := zix_some hF
    refine z_zast (ws' := (zwX1 cI cJ cZ a1 (za K 3 x1 (vp_nar .boolean 0)))) C g3 4 rfl rfl dX2_end_16 (za_row K 3 x1 (vp_nar .boolean 0)) (zr_X1_3 cI cJ cZ a1 K x1 (vp_nar .boolean 0)) ?_
    refine z_aload_n C dX2_end_17 rfl 0 rfl ?_
    refine z_dup C dX2_end_18 rfl ?_
    refine z_get (ref := "SecretBroker$Leased") (v := .int (K 5 0)) C hX2_end_X1 0 rfl rfl 5 (by decide) kX2_end_29 (fun _ h9 => h9) rfl dX2_end_19 ?_
    refine z_iconst (v := 1) C dX2_end_22 (by decide) ?_
    refine z_isub C dX2_end_23 ?_
    refine z_put (ws' := (zwX1 cI cJ cZ a1 (zs (za K 3 x1 (vp_nar .boolean 0)) 5 ((K 5 0) - 1)))) (ref := "SecretBroker$Leased") (ty := .int) C hX2_end_X1 tyX1 tyX1_ok nmX1 0 rfl rfl 5 (by decide) kX2_end_29 (fun _ h9 => h9) rfl (by decide +kernel) rfl rfl (Nat.le_of_ble_eq_true rfl) dX2_end_24 (zs_val (za K 3 x1 (vp_nar .boolean 0)) 5 ((K 5 0) - 1)) (zf_X1_5 cI cJ cZ a1 (za K 3 x1 (vp_nar .boolean 0)) ((K 5 0) - 1)) ?_
    refine z_iconst (v := 1) C dX2_end_27 (by decide) ?_
    have hu := Option.some.inj hF
    subst hu
    exact z_iret C dX2_end_28 rfl rfl
  · have hF := zif hF c2
    refine z_iconst (v := 0) C dX2_end_8 (by decide) ?_
    have hu := Option.some.inj hF
    subst hu
    exact z_iret C dX2_end_9 rfl rfl
theorem kX1_endBelow_15 : Cond.fieldLink RX1 15 "SecretBroker$Credentials" "paths" "[I" ∈ wsX1_endBelow := by decide +kernel
theorem hX1_endBelow_X1 : ∀ w ∈ wsX10, w ∈ wsX1_endBelow := by decide +kernel
set_option maxHeartbeats 4000000 in
set_option maxRecDepth 100000 in
theorem c_X1_endBelow_j4 (l : Launch) (D : va_G) (cI cJ cZ : ClassId) (a1 : Nat → Nat) (K : SS) (u : Int32 × SS) {p : Program} {e : Env} {s : State} {m : MethodId} {args : Array Value} {below : List Frame} {meth : Method} {c : Code} {A : Nat → Prop} (C : zC p s m args meth c cX1_endBelow 4 (some .int) RX1 wsX1_endBelow D (zTy cI cJ cZ) A s.heap) : ∀ (n : Nat) (Kc : SS) (v1 : Int32) (v2 : Int32) (v3 : Int32), f_X1_endBelow_4 n Kc v1 v2 v3 = some u → zW p l e { frames := 3, cells := 0, slots := 0, locals := 63 } s m args below meth c 4 D A s.heap 0 0 (MQ below (zQ D (zTy cI cJ cZ) (some (.int u.1)) (zwX1 cI cJ cZ a1 u.2) A) args s 0 0 A) (zwX1 cI cJ cZ a1 Kc) [(0, .ref (a1 0)), (1, .int v1), (2, .int v2), (3, .int v3)] 4 [] := by
  intro n
  induction n with
  | zero => intro Kc v1 v2 v3 hF; exact absurd (show none = some u from hF) (fun q => nomatch q)
  | succ n ih =>
    intro Kc v1 v2 v3 hF
    refine z_iload_n C dX1_endBelow_4 rfl 3 rfl ?_
    refine z_aload_n C dX1_endBelow_5 rfl 0 rfl ?_
    obtain ⟨r1, er1, hF⟩ := zbd hF
    refine z_callU (n := 0) (As := []) (ws' := (zwX1 cI cJ cZ a1 Kc)) C (c_X2_made_1 l D cI cJ cZ a1 Kc r1 er1) gX1_endBelow_X2_made_u22X1 rfl rfl rfl rfl (by decide +kernel) ⟨Nat.le_of_ble_eq_true rfl, Nat.le_of_ble_eq_true rfl⟩ ⟨Nat.zero_le _, Nat.zero_le _⟩ 0 rfl rfl [] [] rfl rfl rfl rfl (Nat.le_of_ble_eq_true rfl) dX1_endBelow_6 ?_
    refine z_icmp_ge (tgt := 39) C dX1_endBelow_9 (by decide) (fun c2 => ?_) (fun c2 => ?_)
    · have hF := zif hF c2
      refine z_iload_n C dX1_endBelow_39 rfl 2 rfl ?_
      have hu := Option.some.inj hF
      subst hu
      exact z_iret C dX1_endBelow_40 rfl rfl
    · have hF := zelse hF c2
      refine z_aload_n C dX1_endBelow_12 rfl 0 rfl ?_
      refine z_get (ref := "SecretBroker$Credentials") (v := .ref (a1 6)) C hX1_endBelow_X1 0 rfl rfl 7 (by decide) kX1_endBelow_15 (fun _ h9 => h9) rfl dX1_endBelow_13 ?_
      refine z_iload_n C dX1_endBelow_16 rfl 3 rfl ?_
      obtain ⟨g3, hF⟩ := zix_some hF
      refine z_iald (v := ((Kc 7) v3.toNatClampNeg)) C g3 6 rfl rfl rfl dX1_endBelow_17 ?_
      refine z_iload_n C dX1_endBelow_18 rfl 1 rfl ?_
      obtain ⟨r4, er4, hF⟩ := zbd hF
      refine z_callS (n := 2) (As := [.int ((Kc 7) v3.toNatClampNeg), .int v1]) C (c_X4_isBelow l D cI cJ cZ ((Kc 7) v3.toNatClampNeg) v1 r4 er4) gX1_endBelow_X4_isBelow rfl rfl rfl (by decide +kernel) ⟨Nat.le_of_ble_eq_true rfl, Nat.le_of_ble_eq_true rfl⟩ ⟨Nat.zero_le _, Nat.zero_le _⟩ rfl rfl (Nat.le_of_ble_eq_true rfl) dX1_endBelow_19 ?_
      refine z_if_eq (tgt := 33) C dX1_endBelow_22 (by decide) (fun c5 => ?_) (fun c5 => ?_)
      · have hF := zif hF c5
        refine z_iinc (v := (v3 + 1)) (lv' := [(3, .int (v3 + 1)), (0, .ref (a1 0)), (1, .int v1), (2, .int v2)]) C dX1_endBelow_33 3 rfl rfl (by decide) rfl ?_
        refine z_goto (tgt := 4) C dX1_endBelow_36 (by decide) ?_
        exact z_sub C [1, 2, 3, 0] rfl (ih Kc v1 v2 (v3 + 1) hF)
      · have hF := zelse hF c5
        refine z_iload_n C dX1_endBelow_25 rfl 2 rfl ?_
        refine z_aload_n C dX1_endBelow_26 rfl 0 rfl ?_
        refine z_iload_n C dX1_endBelow_27 rfl 3 rfl ?_
        obtain ⟨r6, er6, hF⟩ := zbd hF
        refine z_callU (n := 1) (As := [.int v3]) (ws' := (zwX1 cI cJ cZ a1 r6.2)) C (c_X2_end_1 l D cI cJ cZ a1 Kc v3 r6 er6) gX1_endBelow_X2_end_u35X1 rfl rfl rfl rfl (by decide +kernel) ⟨Nat.le_of_ble_eq_true rfl, Nat.le_of_ble_eq_true rfl⟩ ⟨Nat.zero_le _, Nat.zero_le _⟩ 0 rfl rfl [] [] rfl rfl rfl rfl (Nat.le_of_ble_eq_true rfl) dX1_endBelow_28 ?_
        refine z_iadd C dX1_endBelow_31 ?_
        refine z_istore_n (lv' := [(2, .int (v2 + r6.1)), (0, .ref (a1 0)), (1, .int v1), (3, .int v3)]) C dX1_endBelow_32 rfl (by decide) rfl ?_
        refine z_iinc (v := (v3 + 1)) (lv' := [(3, .int (v3 + 1)), (2, .int (v2 + r6.1)), (0, .ref (a1 0)), (1, .int v1)]) C dX1_endBelow_33 3 rfl rfl (by decide) rfl ?_
        refine z_goto (tgt := 4) C dX1_endBelow_36 (by decide) ?_
        exact z_sub C [2, 3, 1, 0] rfl (ih r6.2 v1 (v2 + r6.1) (v3 + 1) hF)
set_option maxHeartbeats 4000000 in
set_option maxRecDepth 100000 in
theorem c_X1_endBelow (l : Launch) (D : va_G) (cI cJ cZ : ClassId) (a1 : Nat → Nat) (K : SS) (x1 : Int32) (u : Int32 × SS) (hF : f_X1_endBelow K x1 = some u) : zM l yX1_endBelow wsX1_endBelow ({ frames := 3, cells := 0, slots := 0, locals := 63 }) D (zTy cI cJ cZ) [.ref (a1 0), .int x1] (zwX1 cI cJ cZ a1 K) (some (.int u.1)) (zwX1 cI cJ cZ a1 u.2) := by
  refine z_body (cc := cX1_endBelow) (maxL := 4) (rty := (some .int)) (own := RX1) (lv := [(0, .ref (a1 0)), (1, .int x1)]) (by decide +kernel) rfl rfl (Nat.le_of_ble_eq_true rfl) rfl (fun p e s m args below meth c A C => ?_)
  refine z_iconst (v := 0) C dX1_endBelow_0 (by decide) ?_
  refine z_istore_n (lv' := [(2, .int 0), (0, .ref (a1 0)), (1, .int x1)]) C dX1_endBelow_1 rfl (by decide) rfl ?_
  refine z_iconst (v := 0) C dX1_endBelow_2 (by decide) ?_
  refine z_istore_n (lv' := [(3, .int 0), (2, .int 0), (0, .ref (a1 0)), (1, .int x1)]) C dX1_endBelow_3 rfl (by decide) rfl ?_
  exact z_sub C [2, 3, 1, 0] rfl (c_X1_endBelow_j4 l D cI cJ cZ a1 K u C 600 K x1 0 0 hF)
theorem hX2_has_X6 : ∀ w ∈ wsX60, w ∈ wsX2_has := by decide +kernel
set_option maxHeartbeats 4000000 in
set_option maxRecDepth 100000 in
theorem c_X2_has_6 (l : Launch) (D : va_G) (cI cJ cZ : ClassId) (a6 : Nat → Nat) (T : SS) (x1 : Int32) (u : Int32) (hF : f_X2_has T x1 = some u) : zM l yX2_has wsX2_has ({ frames := 0, cells := 0, slots := 0, locals := 0 }) D (zTy cI cJ cZ) [.ref (a6 0), .int x1] (zwX6 cI cJ cZ a6 T) (some (.int u)) (zwX6 cI cJ cZ a6 T) := by
  refine z_body (cc := cX2_has) (maxL := 2) (rty := (some .boolean)) (own := RX2) (lv := [(0, .ref (a6 0)), (1, .int x1)]) (by decide +kernel) rfl rfl (Nat.le_of_ble_eq_true rfl) rfl (fun p e s m args below meth c A C => ?_)
  refine z_iload_n C dX2_has_0 rfl 1 rfl ?_
  refine z_if_lt (tgt := 16) C dX2_has_1 (by decide) (fun c1 => ?_) (fun c1 => ?_)
  · have hF := zif hF c1
    refine z_iconst (v := 0) C dX2_has_16 (by decide) ?_
    have hu := Option.some.inj hF
    subst hu
    exact z_iret C dX2_has_17 rfl z_b0
  · have hF := zelse hF c1
    refine z_iload_n C dX2_has_4 rfl 1 rfl ?_
    refine z_aload_n C dX2_has_5 rfl 0 rfl ?_
    refine z_get (ref := "SecretBroker$Leased") (v := .int (T 4 0)) C hX2_has_X6 0 rfl rfl 4 (by decide) kX2_has_25 (fun _ h9 => h9) rfl dX2_has_6 ?_
    refine z_icmp_ge (tgt := 16) C dX2_has_9 (by decide) (fun c2 => ?_) (fun c2 => ?_)
    · have hF := zif hF c2
      refine z_iconst (v := 0) C dX2_has_16 (by decide) ?_
      have hu := Option.some.inj hF
      subst hu
      exact z_iret C dX2_has_17 rfl z_b0
    · have hF := zelse hF c2
      refine z_iconst (v := 1) C dX2_has_12 (by decide) ?_
      refine z_goto (tgt := 17) C dX2_has_13 (by decide) ?_
      have hu := Option.some.inj hF
      subst hu
      exact z_iret C dX2_has_17 rfl z_b1
theorem hX2_isOn_X6 : ∀ w ∈ wsX60, w ∈ wsX2_isOn := by decide +kernel
set_option maxHeartbeats 4000000 in
set_option maxRecDepth 100000 in
theorem c_X2_isOn_6 (l : Launch) (D : va_G) (cI cJ cZ : ClassId) (a6 : Nat → Nat) (T : SS) (x1 : Int32) (u : Int32) (hF : f_X2_isOn T x1 = some u) : zM l yX2_isOn wsX2_isOn ({ frames := 1, cells := 0, slots := 0, locals := 21 }) D (zTy cI cJ cZ) [.ref (a6 0), .int x1] (zwX6 cI cJ cZ a6 T) (some (.int u)) (zwX6 cI cJ cZ a6 T) := by
  refine z_body (cc := cX2_isOn) (maxL := 2) (rty := (some .boolean)) (own := RX2) (lv := [(0, .ref (a6 0)), (1, .int x1)]) (by decide +kernel) rfl rfl (Nat.le_of_ble_eq_true rfl) rfl (fun p e s m args below meth c A C => ?_)
  refine z_aload_n C dX2_isOn_0 rfl 0 rfl ?_
  refine z_iload_n C dX2_isOn_1 rfl 1 rfl ?_
  obtain ⟨r1, er1, hF⟩ := zbd hF
  refine z_callU (n := 1) (As := [.int x1]) (ws' := (zwX6 cI cJ cZ a6 T)) C (c_X2_has_6 l D cI cJ cZ a6 T x1 r1 er1) gX2_isOn_X2_has_u32X6 rfl rfl rfl rfl (by decide +kernel) ⟨Nat.le_of_ble_eq_true rfl, Nat.le_of_ble_eq_true rfl⟩ ⟨Nat.zero_le _, Nat.zero_le _⟩ 0 rfl rfl [] [] rfl rfl rfl rfl (Nat.le_of_ble_eq_true rfl) dX2_isOn_2 ?_
  refine z_if_eq (tgt := 21) C dX2_isOn_5 (by decide) (fun c2 => ?_) (fun c2 => ?_)
  · have hF := zif hF c2
    refine z_iconst (v := 0) C dX2_isOn_21 (by decide) ?_
    have hu := Option.some.inj hF
    subst hu
    exact z_iret C dX2_isOn_22 rfl z_b0
  · have hF := zelse hF c2
    refine z_aload_n C dX2_isOn_8 rfl 0 rfl ?_
    refine z_get (ref := "SecretBroker$Leased") (v := .ref (a6 4)) C hX2_isOn_X6 0 rfl rfl 3 (by decide) kX2_isOn_21 (fun _ h9 => h9) rfl dX2_isOn_9 ?_
    refine z_iload_n C dX2_isOn_12 rfl 1 rfl ?_
    obtain ⟨g3, hF⟩ := zix_some hF
    refine z_zald (v := ((T 3) x1.toNatClampNeg)) C g3 4 rfl rfl rfl dX2_isOn_13 ?_
    refine z_if_eq (tgt := 21) C dX2_isOn_14 (by decide) (fun c4 => ?_) (fun c4 => ?_)
    · have hF := zif hF c4
      refine z_iconst (v := 0) C dX2_isOn_21 (by decide) ?_
      have hu := Option.some.inj hF
      subst hu
      exact z_iret C dX2_isOn_22 rfl z_b0
    · have hF := zelse hF c4
      refine z_iconst (v := 1) C dX2_isOn_17 (by decide) ?_
      refine z_goto (tgt := 22) C dX2_isOn_18 (by decide) ?_
      have hu := Option.some.inj hF
      subst hu
      exact z_iret C dX2_isOn_22 rfl z_b1
theorem kX1_endOfEnded_9 : Cond.fieldLink RX1 9 "SecretBroker$Credentials" "owners" "[I" ∈ wsX1_endOfEnded := by decide +kernel
theorem hX1_endOfEnded_X1 : ∀ w ∈ wsX10, w ∈ wsX1_endOfEnded := by decide +kernel
set_option maxHeartbeats 4000000 in
set_option maxRecDepth 100000 in
theorem c_X1_endOfEnded_j4 (l : Launch) (D : va_G) (cI cJ cZ : ClassId) (a6 : Nat → Nat) (a1 : Nat → Nat) (T : SS) (K : SS) (u : Int32 × SS) {p : Program} {e : Env} {s : State} {m : MethodId} {args : Array Value} {below : List Frame} {meth : Method} {c : Code} {A : Nat → Prop} (C : zC p s m args meth c cX1_endOfEnded 4 (some .int) RX1 wsX1_endOfEnded D (zTy cI cJ cZ) A s.heap) : ∀ (n : Nat) (Kc : SS) (v2 : Int32) (v3 : Int32), f_X1_endOfEnded_4 T n Kc v2 v3 = some u → zW p l e { frames := 3, cells := 0, slots := 0, locals := 63 } s m args below meth c 4 D A s.heap 0 0 (MQ below (zQ D (zTy cI cJ cZ) (some (.int u.1)) (zwX6 cI cJ cZ a6 T ++ zwX1 cI cJ cZ a1 u.2) A) args s 0 0 A) (zwX6 cI cJ cZ a6 T ++ zwX1 cI cJ cZ a1 Kc) [(0, .ref (a1 0)), (1, .ref (a6 0)), (2, .int v2), (3, .int v3)] 4 [] := by
  intro n
  induction n with
  | zero => intro Kc v2 v3 hF; exact absurd (show none = some u from hF) (fun q => nomatch q)
  | succ n ih =>
    intro Kc v2 v3 hF
    refine z_iload_n C dX1_endOfEnded_4 rfl 3 rfl ?_
    refine z_aload_n C dX1_endOfEnded_5 rfl 0 rfl ?_
    obtain ⟨r1, er1, hF⟩ := zbd hF
    refine z_callU (n := 0) (As := []) (ws' := (zwX6 cI cJ cZ a6 T ++ zwX1 cI cJ cZ a1 Kc)) C (c_X2_made_1 l D cI cJ cZ a1 Kc r1 er1) gX1_endOfEnded_X2_made_u22X1 rfl rfl rfl rfl (by decide +kernel) ⟨Nat.le_of_ble_eq_true rfl, Nat.le_of_ble_eq_true rfl⟩ ⟨Nat.zero_le _, Nat.zero_le _⟩ 8 rfl rfl (zwX6 cI cJ cZ a6 T) [] rfl rfl rfl rfl (Nat.le_of_ble_eq_true rfl) dX1_endOfEnded_6 ?_
    refine z_icmp_ge (tgt := 39) C dX1_endOfEnded_9 (by decide) (fun c2 => ?_) (fun c2 => ?_)
    · have hF := zif hF c2
      refine z_iload_n C dX1_endOfEnded_39 rfl 2 rfl ?_
      have hu := Option.some.inj hF
      subst hu
      exact z_iret C dX1_endOfEnded_40 rfl rfl
    · have hF := zelse hF c2
      refine z_aload_n C dX1_endOfEnded_12 rfl 1 rfl ?_
      refine z_aload_n C dX1_endOfEnded_13 rfl 0 rfl ?_
      refine z_get (ref := "SecretBroker$Credentials") (v := .ref (a1 5)) C hX1_endOfEnded_X1 8 rfl rfl 6 (by decide) kX1_endOfEnded_9 (fun _ h9 => h9) rfl dX1_endOfEnded_14 ?_
      refine z_iload_n C dX1_endOfEnded_17 rfl 3 rfl ?_
      obtain ⟨g3, hF⟩ := zix_some hF
      refine z_iald (v := ((Kc 6) v3.toNatClampNeg)) C g3 13 rfl rfl rfl dX1_endOfEnded_18 ?_
      obtain ⟨r4, er4, hF⟩ := zbd hF
      refine z_callU (n := 1) (As := [.int ((Kc 6) v3.toNatClampNeg)]) (ws' := (zwX6 cI cJ cZ a6 T ++ zwX1 cI cJ cZ a1 Kc)) C (c_X2_isOn_6 l D cI cJ cZ a6 T ((Kc 6) v3.toNatClampNeg) r4 er4) gX1_endOfEnded_X2_isOn_u39X6 rfl rfl rfl rfl (by decide +kernel) ⟨Nat.le_of_ble_eq_true rfl, Nat.le_of_ble_eq_true rfl⟩ ⟨Nat.zero_le _, Nat.zero_le _⟩ 0 rfl rfl [] (zwX1 cI cJ cZ a1 Kc) rfl rfl rfl rfl (Nat.le_of_ble_eq_true rfl) dX1_endOfEnded_19 ?_
      refine z_if_ne (tgt := 33) C dX1_endOfEnded_22 (by decide) (fun c5 => ?_) (fun c5 => ?_)
      · have hF := zelse hF c5
        refine z_iinc (v := (v3 + 1)) (lv' := [(3, .int (v3 + 1)), (0, .ref (a1 0)), (1, .ref (a6 0)), (2, .int v2)]) C dX1_endOfEnded_33 3 rfl rfl (by decide) rfl ?_
        refine z_goto (tgt := 4) C dX1_endOfEnded_36 (by decide) ?_
        exact z_sub C [1, 2, 3, 0] rfl (ih Kc v2 (v3 + 1) hF)
      · have hF := zif hF c5
        refine z_iload_n C dX1_endOfEnded_25 rfl 2 rfl ?_
        refine z_aload_n C dX1_endOfEnded_26 rfl 0 rfl ?_
        refine z_iload_n C dX1_endOfEnded_27 rfl 3 rfl ?_
        obtain ⟨r6, er6, hF⟩ := zbd hF
        refine z_callU (n := 1) (As := [.int v3]) (ws' := (zwX6 cI cJ cZ a6 T ++ zwX1 cI cJ cZ a1 r6.2)) C (c_X2_end_1 l D cI cJ cZ a1 Kc v3 r6 er6) gX1_endOfEnded_X2_end_u35X1 rfl rfl rfl rfl (by decide +kernel) ⟨Nat.le_of_ble_eq_true rfl, Nat.le_of_ble_eq_true rfl⟩ ⟨Nat.zero_le _, Nat.zero_le _⟩ 8 rfl rfl (zwX6 cI cJ cZ a6 T) [] rfl rfl rfl rfl (Nat.le_of_ble_eq_true rfl) dX1_endOfEnded_28 ?_
        refine z_iadd C dX1_endOfEnded_31 ?_
        refine z_istore_n (lv' := [(2, .int (v2 + r6.1)), (0, .ref (a1 0)), (1, .ref (a6 0)), (3, .int v3)]) C dX1_endOfEnded_32 rfl (by decide) rfl ?_
        refine z_iinc (v := (v3 + 1)) (lv' := [(3, .int (v3 + 1)), (2, .int (v2 + r6.1)), (0, .ref (a1 0)), (1, .ref (a6 0))]) C dX1_endOfEnded_33 3 rfl rfl (by decide) rfl ?_
        refine z_goto (tgt := 4) C dX1_endOfEnded_36 (by decide) ?_
        exact z_sub C [2, 3, 1, 0] rfl (ih r6.2 (v2 + r6.1) (v3 + 1) hF)
set_option maxHeartbeats 4000000 in
set_option maxRecDepth 100000 in
theorem c_X1_endOfEnded (l : Launch) (D : va_G) (cI cJ cZ : ClassId) (a6 : Nat → Nat) (a1 : Nat → Nat) (T : SS) (K : SS) (u : Int32 × SS) (hF : f_X1_endOfEnded T K = some u) : zM l yX1_endOfEnded wsX1_endOfEnded ({ frames := 3, cells := 0, slots := 0, locals := 63 }) D (zTy cI cJ cZ) [.ref (a1 0), .ref (a6 0)] (zwX6 cI cJ cZ a6 T ++ zwX1 cI cJ cZ a1 K) (some (.int u.1)) (zwX6 cI cJ cZ a6 T ++ zwX1 cI cJ cZ a1 u.2) := by
  refine z_body (cc := cX1_endOfEnded) (maxL := 4) (rty := (some .int)) (own := RX1) (lv := [(0, .ref (a1 0)), (1, .ref (a6 0))]) (by decide +kernel) rfl rfl (Nat.le_of_ble_eq_true rfl) rfl (fun p e s m args below meth c A C => ?_)
  refine z_iconst (v := 0) C dX1_endOfEnded_0 (by decide) ?_
  refine z_istore_n (lv' := [(2, .int 0), (0, .ref (a1 0)), (1, .ref (a6 0))]) C dX1_endOfEnded_1 rfl (by decide) rfl ?_
  refine z_iconst (v := 0) C dX1_endOfEnded_2 (by decide) ?_
  refine z_istore_n (lv' := [(3, .int 0), (2, .int 0), (0, .ref (a1 0)), (1, .ref (a6 0))]) C dX1_endOfEnded_3 rfl (by decide) rfl ?_
  exact z_sub C [2, 3, 1, 0] rfl (c_X1_endOfEnded_j4 l D cI cJ cZ a6 a1 T K u C 600 K 0 0 hF)
theorem hX2_made_X6 : ∀ w ∈ wsX60, w ∈ wsX2_made := by decide +kernel
set_option maxHeartbeats 4000000 in
set_option maxRecDepth 100000 in
theorem c_X2_made_6 (l : Launch) (D : va_G) (cI cJ cZ : ClassId) (a6 : Nat → Nat) (T : SS) (u : Int32) (hF : f_X2_made T = some u) : zM l yX2_made wsX2_made ({ frames := 0, cells := 0, slots := 0, locals := 0 }) D (zTy cI cJ cZ) [.ref (a6 0)] (zwX6 cI cJ cZ a6 T) (some (.int u)) (zwX6 cI cJ cZ a6 T) := by
  refine z_body (cc := cX2_made) (maxL := 1) (rty := (some .int)) (own := RX2) (lv := [(0, .ref (a6 0))]) (by decide +kernel) rfl rfl (Nat.le_of_ble_eq_true rfl) rfl (fun p e s m args below meth c A C => ?_)
  refine z_aload_n C dX2_made_0 rfl 0 rfl ?_
  refine z_get (ref := "SecretBroker$Leased") (v := .int (T 4 0)) C hX2_made_X6 0 rfl rfl 4 (by decide) kX2_made_25 (fun _ h9 => h9) rfl dX2_made_1 ?_
  have hu := Option.some.inj hF
  subst hu
  exact z_iret C dX2_made_4 rfl rfl
theorem kX2_living_29 : Cond.fieldLink RX2 29 "SecretBroker$Leased" "living" "I" ∈ wsX2_living := by decide +kernel
theorem hX2_living_X6 : ∀ w ∈ wsX60, w ∈ wsX2_living := by decide +kernel
set_option maxHeartbeats 4000000 in
set_option maxRecDepth 100000 in
theorem c_X2_living_6 (l : Launch) (D : va_G) (cI cJ cZ : ClassId) (a6 : Nat → Nat) (T : SS) (u : Int32) (hF : f_X2_living T = some u) : zM l yX2_living wsX2_living ({ frames := 0, cells := 0, slots := 0, locals := 0 }) D (zTy cI cJ cZ) [.ref (a6 0)] (zwX6 cI cJ cZ a6 T) (some (.int u)) (zwX6 cI cJ cZ a6 T) := by
  refine z_body (cc := cX2_living) (maxL := 1) (rty := (some .int)) (own := RX2) (lv := [(0, .ref (a6 0))]) (by decide +kernel) rfl rfl (Nat.le_of_ble_eq_true rfl) rfl (fun p e s m args below meth c A C => ?_)
  refine z_aload_n C dX2_living_0 rfl 0 rfl ?_
  refine z_get (ref := "SecretBroker$Leased") (v := .int (T 5 0)) C hX2_living_X6 0 rfl rfl 5 (by decide) kX2_living_29 (fun _ h9 => h9) rfl dX2_living_1 ?_
  have hu := Option.some.inj hF
  subst hu
  exact z_iret C dX2_living_4 rfl rfl
theorem hX2_living_X1 : ∀ w ∈ wsX10, w ∈ wsX2_living := by decide +kernel
set_option maxHeartbeats 4000000 in
set_option maxRecDepth 100000 in
theorem c_X2_living_1 (l : Launch) (D : va_G) (cI cJ cZ : ClassId) (a1 : Nat → Nat) (K : SS) (u : Int32) (hF : f_X2_living K = some u) : zM l yX2_living wsX2_living ({ frames := 0, cells := 0, slots := 0, locals := 0 }) D (zTy cI cJ cZ) [.ref (a1 0)] (zwX1 cI cJ cZ a1 K) (some (.int u)) (zwX1 cI cJ cZ a1 K) := by
  refine z_body (cc := cX2_living) (maxL := 1) (rty := (some .int)) (own := RX2) (lv := [(0, .ref (a1 0))]) (by decide +kernel) rfl rfl (Nat.le_of_ble_eq_true rfl) rfl (fun p e s m args below meth c A C => ?_)
  refine z_aload_n C dX2_living_0 rfl 0 rfl ?_
  refine z_get (ref := "SecretBroker$Leased") (v := .int (K 5 0)) C hX2_living_X1 0 rfl rfl 5 (by decide) kX2_living_29 (fun _ h9 => h9) rfl dX2_living_1 ?_
  have hu := Option.some.inj hF
  subst hu
  exact z_iret C dX2_living_4 rfl rfl
theorem kX2_isFull_25 : Cond.fieldLink RX2 25 "SecretBroker$Leased" "made" "I" ∈ wsX2_isFull := by decide +kernel
theorem hX2_isFull_X6 : ∀ w ∈ wsX60, w ∈ wsX2_isFull := by decide +kernel
set_option maxHeartbeats 4000000 in
set_option maxRecDepth 100000 in
theorem c_X2_isFull_6 (l : Launch) (D : va_G) (cI cJ cZ : ClassId) (a6 : Nat → Nat) (T : SS) (u : Int32) (hF : f_X2_isFull T = some u) : zM l yX2_isFull wsX2_isFull ({ frames := 0, cells := 0, slots := 0, locals := 0 }) D (zTy cI cJ cZ) [.ref (a6 0)] (zwX6 cI cJ cZ a6 T) (some (.int u)) (zwX6 cI cJ cZ a6 T) := by
  refine z_body (cc := cX2_isFull) (maxL := 1) (rty := (some .boolean)) (own := RX2) (lv := [(0, .ref (a6 0))]) (by decide +kernel) rfl rfl (Nat.le_of_ble_eq_true rfl) rfl (fun p e s m args below meth c A C => ?_)
  refine z_aload_n C dX2_isFull_0 rfl 0 rfl ?_
  refine z_get (ref := "SecretBroker$Leased") (v := .int (T 4 0)) C hX2_isFull_X6 0 rfl rfl 4 (by decide) kX2_isFull_25 (fun _ h9 => h9) rfl dX2_isFull_1 ?_
  refine z_sipush (v := 513) C dX2_isFull_4 (by decide) ?_
  refine z_icmp_lt (tgt := 14) C dX2_isFull_7 (by decide) (fun c1 => ?_) (fun c1 => ?_)
  · have hF := zif hF c1
    refine z_iconst (v := 0) C dX2_isFull_14 (by decide) ?_
    have hu := Option.some.inj hF
    subst hu
    exact z_iret C dX2_isFull_15 rfl z_b0
  · have hF := zelse hF c1
    refine z_iconst (v := 1) C dX2_isFull_10 (by decide) ?_
    refine z_goto (tgt := 15) C dX2_isFull_11 (by decide) ?_
    have hu := Option.some.inj hF
    subst hu
    exact z_iret C dX2_isFull_15 rfl z_b1
theorem hX2_isFull_X1 : ∀ w ∈ wsX10, w ∈ wsX2_isFull := by decide +kernel
set_option maxHeartbeats 4000000 in
set_option maxRecDepth 100000 in
theorem c_X2_isFull_1 (l : Launch) (D : va_G) (cI cJ cZ : ClassId) (a1 : Nat → Nat) (K : SS) (u : Int32) (hF : f_X2_isFull K = some u) : zM l yX2_isFull wsX2_isFull ({ frames := 0, cells := 0, slots := 0, locals := 0 }) D (zTy cI cJ cZ) [.ref (a1 0)] (zwX1 cI cJ cZ a1 K) (some (.int u)) (zwX1 cI cJ cZ a1 K) := by
  refine z_body (cc := cX2_isFull) (maxL := 1) (rty := (some .boolean)) (own := RX2) (lv := [(0, .ref (a1 0))]) (by decide +kernel) rfl rfl (Nat.le_of_ble_eq_true rfl) rfl (fun p e s m args below meth c A C => ?_)
  refine z_aload_n C dX2_isFull_0 rfl 0 rfl ?_
  refine z_get (ref := "SecretBroker$Leased") (v := .int (K 4 0)) C hX2_isFull_X1 0 rfl rfl 4 (by decide) kX2_isFull_25 (fun _ h9 => h9) rfl dX2_isFull_1 ?_
  refine z_sipush (v := 513) C dX2_isFull_4 (by decide) ?_
  refine z_icmp_lt (tgt := 14) C dX2_isFull_7 (by decide) (fun c1 => ?_) (fun c1 => ?_)
  · have hF := zif hF c1
    refine z_iconst (v := 0) C dX2_isFull_14 (by decide) ?_
    have hu := Option.some.inj hF
    subst hu
    exact z_iret C dX2_isFull_15 rfl z_b0
  · have hF := zelse hF c1
    refine z_iconst (v := 1) C dX2_isFull_10 (by decide) ?_
    refine z_goto (tgt := 15) C dX2_isFull_11 (by decide) ?_
    have hu := Option.some.inj hF
    subst hu
    exact z_iret C dX2_isFull_15 rfl z_b1
theorem kX2_endAt_15 : Cond.fieldLink RX2 15 "SecretBroker$Leased" "ends" "[I" ∈ wsX2_endAt := by decide +kernel
theorem hX2_endAt_X6 : ∀ w ∈ wsX60, w ∈ wsX2_endAt := by decide +kernel
set_option maxHeartbeats 4000000 in
set_option maxRecDepth 100000 in
theorem c_X2_endAt_6 (l : Launch) (D : va_G) (cI cJ cZ : ClassId) (a6 : Nat → Nat) (T : SS) (x1 : Int32) (u : Int32) (hF : f_X2_endAt T x1 = some u) : zM l yX2_endAt wsX2_endAt ({ frames := 1, cells := 0, slots := 0, locals := 21 }) D (zTy cI cJ cZ) [.ref (a6 0), .int x1] (zwX6 cI cJ cZ a6 T) (some (.int u)) (zwX6 cI cJ cZ a6 T) := by
  refine z_body (cc := cX2_endAt) (maxL := 2) (rty := (some .int)) (own := RX2) (lv := [(0, .ref (a6 0)), (1, .int x1)]) (by decide +kernel) rfl rfl (Nat.le_of_ble_eq_true rfl) rfl (fun p e s m args below meth c A C => ?_)
  refine z_aload_n C dX2_endAt_0 rfl 0 rfl ?_
  refine z_iload_n C dX2_endAt_1 rfl 1 rfl ?_
  obtain ⟨r1, er1, hF⟩ := zbd hF
  refine z_callU (n := 1) (As := [.int x1]) (ws' := (zwX6 cI cJ cZ a6 T)) C (c_X2_has_6 l D cI cJ cZ a6 T x1 r1 er1) gX2_endAt_X2_has_u32X6 rfl rfl rfl rfl (by decide +kernel) ⟨Nat.le_of_ble_eq_true rfl, Nat.le_of_ble_eq_true rfl⟩ ⟨Nat.zero_le _, Nat.zero_le _⟩ 0 rfl rfl [] [] rfl rfl rfl rfl (Nat.le_of_ble_eq_true rfl) dX2_endAt_2 ?_
  refine z_if_eq (tgt := 17) C dX2_endAt_5 (by decide) (fun c2 => ?_) (fun c2 => ?_)
  · have hF := zif hF c2
    refine z_iconst (v := (-1)) C dX2_endAt_17 (by decide) ?_
    have hu := Option.some.inj hF
    subst hu
    exact z_iret C dX2_endAt_18 rfl rfl
  · have hF := zelse hF c2
    refine z_aload_n C dX2_endAt_8 rfl 0 rfl ?_
    refine z_get (ref := "SecretBroker$Leased") (v := .ref (a6 2)) C hX2_endAt_X6 0 rfl rfl 1 (by decide) kX2_endAt_15 (fun _ h9 => h9) rfl dX2_endAt_9 ?_
    refine z_iload_n C dX2_endAt_12 rfl 1 rfl ?_
    obtain ⟨g3, hF⟩ := zix_some hF
    refine z_iald (v := ((T 1) x1.toNatClampNeg)) C g3 2 rfl rfl rfl dX2_endAt_13 ?_
    refine z_goto (tgt := 18) C dX2_endAt_14 (by decide) ?_
    have hu := Option.some.inj hF
    subst hu
    exact z_iret C dX2_endAt_18 rfl rfl
theorem hX2_endAt_X1 : ∀ w ∈ wsX10, w ∈ wsX2_endAt := by decide +kernel
set_option maxHeartbeats 4000000 in
set_option maxRecDepth 100000 in
theorem c_X2_endAt_1 (l : Launch) (D : va_G) (cI cJ cZ : ClassId) (a1 : Nat → Nat) (K : SS) (x1 : Int32) (u : Int32) (hF : f_X2_endAt K x1 = some u) : zM l yX2_endAt wsX2_endAt ({ frames := 1, cells := 0, slots := 0, locals := 21 }) D (zTy cI cJ cZ) [.ref (a1 0), .int x1] (zwX1 cI cJ cZ a1 K) (some (.int u)) (zwX1 cI cJ cZ a1 K) := by
  refine z_body (cc := cX2_endAt) (maxL := 2) (rty := (some .int)) (own := RX2) (lv := [(0, .ref (a1 0)), (1, .int x1)]) (by decide +kernel) rfl rfl (Nat.le_of_ble_eq_true rfl) rfl (fun p e s m args below meth c A C => ?_)
  refine z_aload_n C dX2_endAt_0 rfl 0 rfl ?_
  refine z_iload_n C dX2_endAt_1 rfl 1 rfl ?_
  obtain ⟨r1, er1, hF⟩ := zbd hF
  refine z_callU (n := 1) (As := [.int x1]) (ws' := (zwX1 cI cJ cZ a1 K)) C (c_X2_has_1 l D cI cJ cZ a1 K x1 r1 er1) gX2_endAt_X2_has_u32X1 rfl rfl rfl rfl (by decide +kernel) ⟨Nat.le_of_ble_eq_true rfl, Nat.le_of_ble_eq_true rfl⟩ ⟨Nat.zero_le _, Nat.zero_le _⟩ 0 rfl rfl [] [] rfl rfl rfl rfl (Nat.le_of_ble_eq_true rfl) dX2_endAt_2 ?_
  refine z_if_eq (tgt := 17) C dX2_endAt_5 (by decide) (fun c2 => ?_) (fun c2 => ?_)
  · have hF := zif hF c2
    refine z_iconst (v := (-1)) C dX2_endAt_17 (by decide) ?_
    have hu := Option.some.inj hF
    subst hu
    exact z_iret C dX2_endAt_18 rfl rfl
  · have hF := zelse hF c2
    refine z_aload_n C dX2_endAt_8 rfl 0 rfl ?_
    refine z_get (ref := "SecretBroker$Leased") (v := .ref (a1 2)) C hX2_endAt_X1 0 rfl rfl 1 (by decide) kX2_endAt_15 (fun _ h9 => h9) rfl dX2_endAt_9 ?_
    refine z_iload_n C dX2_endAt_12 rfl 1 rfl ?_
    obtain ⟨g3, hF⟩ := zix_some hF
    refine z_iald (v := ((K 1) x1.toNatClampNeg)) C g3 2 rfl rfl rfl dX2_endAt_13 ?_
    refine z_goto (tgt := 18) C dX2_endAt_14 (by decide) ?_
    have hu := Option.some.inj hF
    subst hu
    exact z_iret C dX2_endAt_18 rfl rfl
theorem kX2_add_25 : Cond.fieldLink RX2 25 "SecretBroker$Leased" "made" "I" ∈ wsX2_add := by decide +kernel
theorem kX2_add_9 : Cond.fieldLink RX2 9 "SecretBroker$Leased" "beginnings" "[I" ∈ wsX2_add := by decide +kernel
theorem kX2_add_15 : Cond.fieldLink RX2 15 "SecretBroker$Leased" "ends" "[I" ∈ wsX2_add := by decide +kernel
theorem kX2_add_18 : Cond.fieldLink RX2 18 "SecretBroker$Leased" "bounds" "[I" ∈ wsX2_add := by decide +kernel
theorem kX2_add_21 : Cond.fieldLink RX2 21 "SecretBroker$Leased" "on" "[Z" ∈ wsX2_add := by decide +kernel
theorem kX2_add_29 : Cond.fieldLink RX2 29 "SecretBroker$Leased" "living" "I" ∈ wsX2_add := by decide +kernel
theorem hX2_add_X6 : ∀ w ∈ wsX60, w ∈ wsX2_add := by decide +kernel
set_option maxHeartbeats 4000000 in
set_option maxRecDepth 100000 in
theorem c_X2_add_6 (l : Launch) (D : va_G) (cI cJ cZ : ClassId) (a6 : Nat → Nat) (T : SS) (x1 : Int32) (x2 : Int32) (x3 : Int32) (u : Int32 × SS) (hF : f_X2_add T x1 x2 x3 = some u) : zM l yX2_add wsX2_add ({ frames := 0, cells := 0, slots := 0, locals := 0 }) D (zTy cI cJ cZ) [.ref (a6 0), .int x1, .int x2, .int x3] (zwX6 cI cJ cZ a6 T) (some (.int u.1)) (zwX6 cI cJ cZ a6 u.2) := by
  refine z_body (cc := cX2_add) (maxL := 4) (rty := (some .int)) (own := RX2) (lv := [(0, .ref (a6 0)), (1, .int x1), (2, .int x2), (3, .int x3)]) (by decide +kernel) rfl rfl (Nat.le_of_ble_eq_true rfl) rfl (fun p e s m args below meth c A C => ?_)
  refine z_aload_n C dX2_add_0 rfl 0 rfl ?_
  refine z_get (ref := "SecretBroker$Leased") (v := .int (T 4 0)) C hX2_add_X6 0 rfl rfl 4 (by decide) kX2_add_25 (fun _ h9 => h9) rfl dX2_add_1 ?_
  refine z_sipush (v := 513) C dX2_add_4 (by decide) ?_
  refine z_icmp_lt (tgt := 12) C dX2_add_7 (by decide) (fun c1 => ?_) (fun c1 => ?_)
  · have hF := zif hF c1
    refine z_aload_n C dX2_add_12 rfl 0 rfl ?_
    refine z_get (ref := "SecretBroker$Leased") (v := .ref (a6 1)) C hX2_add_X6 0 rfl rfl 0 (by decide) kX2_add_9 (fun _ h9 => h9) rfl dX2_add_13 ?_
    refine z_aload_n C dX2_add_16 rfl 0 rfl ?_
    refine z_get (ref := "SecretBroker$Leased") (v := .int (T 4 0)) C hX2_add_X6 0 rfl rfl 4 (by decide) kX2_add_25 (fun _ h9 => h9) rfl dX2_add_17 ?_
    refine z_iload_n C dX2_add_20 rfl 1 rfl ?_
    obtain ⟨g2, hF⟩ := zix_some hF
    refine z_iast (ws' := (zwX6 cI cJ cZ a6 (za T 0 (T 4 0) x1))) C g2 1 rfl rfl dX2_add_21 (za_row T 0 (T 4 0) x1) (zr_X6_0 cI cJ cZ a6 T (T 4 0) x1) ?_
    refine z_aload_n C dX2_add_22 rfl 0 rfl ?_
    refine z_get (ref := "SecretBroker$Leased") (v := .ref (a6 2)) C hX2_add_X6 0 rfl rfl 1 (by decide) kX2_add_15 (fun _ h9 => h9) rfl dX2_add_23 ?_
    refine z_aload_n C dX2_add_26 rfl 0 rfl ?_
    refine z_get (ref := "SecretBroker$Leased") (v := .int (T 4 0)) C hX2_add_X6 0 rfl rfl 4 (by decide) kX2_add_25 (fun _ h9 => h9) rfl dX2_add_27 ?_
    refine z_iload_n C dX2_add_30 rfl 2 rfl ?_
    obtain ⟨g3, hF⟩ := zix_some hF
    refine z_iast (ws' := (zwX6 cI cJ cZ a6 (za (za T 0 (T 4 0) x1) 1 (T 4 0) x2))) C g3 2 rfl rfl dX2_add_31 (za_row (za T 0 (T 4 0) x1) 1 (T 4 0) x2) (zr_X6_1 cI cJ cZ a6 (za T 0 (T 4 0) x1) (T 4 0) x2) ?_
    refine z_aload_n C dX2_add_32 rfl 0 rfl ?_
    refine z_get (ref := "SecretBroker$Leased") (v := .ref (a6 3)) C hX2_add_X6 0 rfl rfl 2 (by decide) kX2_add_18 (fun _ h9 => h9) rfl dX2_add_33 ?_
    refine z_aload_n C dX2_add_36 rfl 0 rfl ?_
    refine z_get (ref := "SecretBroker$Leased") (v := .int (T 4 0)) C hX2_add_X6 0 rfl rfl 4 (by decide) kX2_add_25 (fun _ h9 => h9) rfl dX2_add_37 ?_
    refine z_iload_n C dX2_add_40 rfl 3 rfl ?_
    obtain ⟨g4, hF⟩ := zix_some hF
    refine z_iast (ws' := (zwX6 cI cJ cZ a6 (za (za (za T 0 (T 4 0) x1) 1 (T 4 0) x2) 2 (T 4 0) x3))) C g4 3 rfl rfl dX2_add_41 (za_row (za (za T 0 (T 4 0) x1) 1 (T 4 0) x2) 2 (T 4 0) x3) (zr_X6_2 cI cJ cZ a6 (za (za T 0 (T 4 0) x1) 1 (T 4 0) x2) (T 4 0) x3) ?_
    refine z_aload_n C dX2_add_42 rfl 0 rfl ?_
    refine z_get (ref := "SecretBroker$Leased") (v := .ref (a6 4)) C hX2_add_X6 0 rfl rfl 3 (by decide) kX2_add_21 (fun _ h9 => h9) rfl dX2_add_43 ?_
    refine z_aload_n C dX2_add_46 rfl 0 rfl ?_
    refine z_get (ref := "SecretBroker$Leased") (v := .int (T 4 0)) C hX2_add_X6 0 rfl rfl 4 (by decide) kX2_add_25 (fun _ h9 => h9) rfl dX2_add_47 ?_
    refine z_iconst (v := 1) C dX2_add_50 (by decide) ?_
    obtain ⟨g5, hF⟩ := zix_some hF
    refine z_zast (ws' := (zwX6 cI cJ cZ a6 (za (za (za (za T 0 (T 4 0) x1) 1 (T 4 0) x2) 2 (T 4 0) x3) 3 (T 4 0) (vp_nar .boolean 1)))) C g5 4 rfl rfl dX2_add_51 (za_row (za (za (za T 0 (T 4 0) x1) 1 (T 4 0) x2) 2 (T 4 0) x3) 3 (T 4 0) (vp_nar .boolean 1)) (zr_X6_3 cI cJ cZ a6 (za (za (za T 0 (T 4 0) x1) 1 (T 4 0) x2) 2 (T 4 0) x3) (T 4 0) (vp_nar .boolean 1)) ?_
    refine z_aload_n C dX2_add_52 rfl 0 rfl ?_
    refine z_dup C dX2_add_53 rfl ?_
    refine z_get (ref := "SecretBroker$Leased") (v := .int (T 5 0)) C hX2_add_X6 0 rfl rfl 5 (by decide) kX2_add_29 (fun _ h9 => h9) rfl dX2_add_54 ?_
    refine z_iconst (v := 1) C dX2_add_57 (by decide) ?_
    refine z_iadd C dX2_add_58 ?_
    refine z_put (ws' := (zwX6 cI cJ cZ a6 (zs (za (za (za (za T 0 (T 4 0) x1) 1 (T 4 0) x2) 2 (T 4 0) x3) 3 (T 4 0) (vp_nar .boolean 1)) 5 ((T 5 0) + 1)))) (ref := "SecretBroker$Leased") (ty := .int) C hX2_add_X6 tyX6 tyX6_ok nmX6 0 rfl rfl 5 (by decide) kX2_add_29 (fun _ h9 => h9) rfl (by decide +kernel) rfl rfl (Nat.le_of_ble_eq_true rfl) dX2_add_59 (zs_val (za (za (za (za T 0 (T 4 0) x1) 1 (T 4 0) x2) 2 (T 4 0) x3) 3 (T 4 0) (vp_nar .boolean 1)) 5 ((T 5 0) + 1)) (zf_X6_5 cI cJ cZ a6 (za (za (za (za T 0 (T 4 0) x1) 1 (T 4 0) x2) 2 (T 4 0) x3) 3 (T 4 0) (vp_nar .boolean 1)) ((T 5 0) + 1)) ?_
    refine z_aload_n C dX2_add_62 rfl 0 rfl ?_
    refine z_dup C dX2_add_63 rfl ?_
    refine z_get (ref := "SecretBroker$Leased") (v := .int (T 4 0)) C hX2_add_X6 0 rfl rfl 4 (by decide) kX2_add_25 (fun _ h9 => h9) rfl dX2_add_64 ?_
    refine z_iconst (v := 1) C dX2_add_67 (by decide) ?_
    refine z_iadd C dX2_add_68 ?_
    refine z_put (ws' := (zwX6 cI cJ cZ a6 (zs (zs (za (za (za (za T 0 (T 4 0) x1) 1 (T 4 0) x2) 2 (T 4 0) x3) 3 (T 4 0) (vp_nar .boolean 1)) 5 ((T 5 0) + 1)) 4 ((T 4 0) + 1)))) (ref := "SecretBroker$Leased") (ty := .int) C hX2_add_X6 tyX6 tyX6_ok nmX6 0 rfl rfl 4 (by decide) kX2_add_25 (fun _ h9 => h9) rfl (by decide +kernel) rfl rfl (Nat.le_of_ble_eq_true rfl) dX2_add_69 (zs_val (zs (za (za (za (za T 0 (T 4 0) x1) 1 (T 4 0) x2) 2 (T 4 0) x3) 3 (T 4 0) (vp_nar .boolean 1)) 5 ((T 5 0) + 1)) 4 ((T 4 0) + 1)) (zf_X6_4 cI cJ cZ a6 (zs (za (za (za (za T 0 (T 4 0) x1) 1 (T 4 0) x2) 2 (T 4 0) x3) 3 (T 4 0) (vp_nar .boolean 1)) 5 ((T 5 0) + 1)) ((T 4 0) + 1)) ?_
    refine z_aload_n C dX2_add_72 rfl 0 rfl ?_
    refine z_get (ref := "SecretBroker$Leased") (v := .int ((zs (zs (za (za (za (za T 0 (T 4 0) x1) 1 (T 4 0) x2) 2 (T 4 0) x3) 3 (T 4 0) (vp_nar .boolean 1)) 5 ((T 5 0) + 1)) 4 ((T 4 0) + 1)) 4 0)) C hX2_add_X6 0 rfl rfl 4 (by decide) kX2_add_25 (fun _ h9 => h9) rfl dX2_add_73 ?_
    refine z_iconst (v := 1) C dX2_add_76 (by decide) ?_
    refine z_isub C dX2_add_77 ?_
    have hu := Option.some.inj hF
    subst hu
    exact z_iret C dX2_add_78 rfl rfl
  · have hF := zelse hF c1
    refine z_iconst (v := (-1)) C dX2_add_10 (by decide) ?_
    have hu := Option.some.inj hF
    subst hu
    exact z_iret C dX2_add_11 rfl rfl
theorem hX2_add_X1 : ∀ w ∈ wsX10, w ∈ wsX2_add := by decide +kernel
set_option maxHeartbeats 4000000 in
set_option maxRecDepth 100000 in
theorem c_X2_add_1 (l : Launch) (D : va_G) (cI cJ cZ : ClassId) (a1 : Nat → Nat) (K : SS) (x1 : Int32) (x2 : Int32) (x3 : Int32) (u : Int32 × SS) (hF : f_X2_add K x1 x2 x3 = some u) : zM l yX2_add wsX2_add ({ frames := 0, cells := 0, slots := 0, locals := 0 }) D (zTy cI cJ cZ) [.ref (a1 0), .int x1, .int x2, .int x3] (zwX1 cI cJ cZ a1 K) (some (.int u.1)) (zwX1 cI cJ cZ a1 u.2) := by
  refine z_body (cc := cX2_add) (maxL := 4) (rty := (some .int)) (own := RX2) (lv := [(0, .ref (a1 0)), (1, .int x1), (2, .int x2), (3, .int x3)]) (by decide +kernel) rfl rfl (Nat.le_of_ble_eq_true rfl) rfl (fun p e s m args below meth c A C => ?_)
  refine z_aload_n C dX2_add_0 rfl 0 rfl ?_
  refine z_get (ref := "SecretBroker$Leased") (v := .int (K 4 0)) C hX2_add_X1 0 rfl rfl 4 (by decide) kX2_add_25 (fun _ h9 => h9) rfl dX2_add_1 ?_
  refine z_sipush (v := 513) C dX2_add_4 (by decide) ?_
  refine z_icmp_lt (tgt := 12) C dX2_add_7 (by decide) (fun c1 => ?_) (fun c1 => ?_)
  · have hF := zif hF c1
    refine z_aload_n C dX2_add_12 rfl 0 rfl ?_
    refine z_get (ref := "SecretBroker$Leased") (v := .ref (a1 1)) C hX2_add_X1 0 rfl rfl 0 (by decide) kX2_add_9 (fun _ h9 => h9) rfl dX2_add_13 ?_
    refine z_aload_n C dX2_add_16 rfl 0 rfl ?_
    refine z_get (ref := "SecretBroker$Leased") (v := .int (K 4 0)) C hX2_add_X1 0 rfl rfl 4 (by decide) kX2_add_25 (fun _ h9 => h9) rfl dX2_add_17 ?_
    refine z_iload_n C dX2_add_20 rfl 1 rfl ?_
    obtain ⟨g2, hF⟩ := zix_some hF
    refine z_iast (ws' := (zwX1 cI cJ cZ a1 (za K 0 (K 4 0) x1))) C g2 1 rfl rfl dX2_add_21 (za_row K 0 (K 4 0) x1) (zr_X1_0 cI cJ cZ a1 K (K 4 0) x1) ?_
    refine z_aload_n C dX2_add_22 rfl 0 rfl ?_
    refine z_get (ref := "SecretBroker$Leased") (v := .ref (a1 2)) C hX2_add_X1 0 rfl rfl 1 (by decide) kX2_add_15 (fun _ h9 => h9) rfl dX2_add_23 ?_
    refine z_aload_n C dX2_add_26 rfl 0 rfl ?_
    refine z_get (ref := "SecretBroker$Leased") (v := .int (K 4 0)) C hX2_add_X1 0 rfl rfl 4 (by decide) kX2_add_25 (fun _ h9 => h9) rfl dX2_add_27 ?_
    refine z_iload_n C dX2_add_30 rfl 2 rfl ?_
    obtain ⟨g3, hF⟩ := zix_some hF
    refine z_iast (ws' := (zwX1 cI cJ cZ a1 (za (za K 0 (K 4 0) x1) 1 (K 4 0) x2))) C g3 2 rfl rfl dX2_add_31 (za_row (za K 0 (K 4 0) x1) 1 (K 4 0) x2) (zr_X1_1 cI cJ cZ a1 (za K 0 (K 4 0) x1) (K 4 0) x2) ?_
    refine z_aload_n C dX2_add_32 rfl 0 rfl ?_
    refine z_get (ref := "SecretBroker$Leased") (v := .ref (a1 3)) C hX2_add_X1 0 rfl rfl 2 (by decide) kX2_add_18 (fun _ h9 => h9) rfl dX2_add_33 ?_
    refine z_aload_n C dX2_add_36 rfl 0 rfl ?_
    refine z_get (ref := "SecretBroker$Leased") (v := .int (K 4 0)) C hX2_add_X1 0 rfl rfl 4 (by decide) kX2_add_25 (fun _ h9 => h9) rfl dX2_add_37 ?_
    refine z_iload_n C dX2_add_40 rfl 3 rfl ?_
    obtain ⟨g4, hF⟩ := zix_some hF
    refine z_iast (ws' := (zwX1 cI cJ cZ a1 (za (za (za K 0 (K 4 0) x1) 1 (K 4 0) x2) 2 (K 4 0) x3))) C g4 3 rfl rfl dX2_add_41 (za_row (za (za K 0 (K 4 0) x1) 1 (K 4 0) x2) 2 (K 4 0) x3) (zr_X1_2 cI cJ cZ a1 (za (za K 0 (K 4 0) x1) 1 (K 4 0) x2) (K 4 0) x3) ?_
    refine z_aload_n C dX2_add_42 rfl 0 rfl ?_
    refine z_get (ref := "SecretBroker$Leased") (v := .ref (a1 4)) C hX2_add_X1 0 rfl rfl 3 (by decide) kX2_add_21 (fun _ h9 => h9) rfl dX2_add_43 ?_
    refine z_aload_n C dX2_add_46 rfl 0 rfl ?_
    refine z_get (ref := "SecretBroker$Leased") (v := .int (K 4 0)) C hX2_add_X1 0 rfl rfl 4 (by decide) kX2_add_25 (fun _ h9 => h9) rfl dX2_add_47 ?_
    refine z_iconst (v := 1) C dX2_add_50 (by decide) ?_
    obtain ⟨g5, hF⟩ := zix_some hF
    refine z_zast (ws' := (zwX1 cI cJ cZ a1 (za (za (za (za K 0 (K 4 0) x1) 1 (K 4 0) x2) 2 (K 4 0) x3) 3 (K 4 0) (vp_nar .boolean 1)))) C g5 4 rfl rfl dX2_add_51 (za_row (za (za (za K 0 (K 4 0) x1) 1 (K 4 0) x2) 2 (K 4 0) x3) 3 (K 4 0) (vp_nar .boolean 1)) (zr_X1_3 cI cJ cZ a1 (za (za (za K 0 (K 4 0) x1) 1 (K 4 0) x2) 2 (K 4 0) x3) (K 4 0) (vp_nar .boolean 1)) ?_
    refine z_aload_n C dX2_add_52 rfl 0 rfl ?_
    refine z_dup C dX2_add_53 rfl ?_
    refine z_get (ref := "SecretBroker$Leased") (v := .int (K 5 0)) C hX2_add_X1 0 rfl rfl 5 (by decide) kX2_add_29 (fun _ h9 => h9) rfl dX2_add_54 ?_
    refine z_iconst (v := 1) C dX2_add_57 (by decide) ?_
    refine z_iadd C dX2_add_58 ?_
    refine z_put (ws' := (zwX1 cI cJ cZ a1 (zs (za (za (za (za K 0 (K 4 0) x1) 1 (K 4 0) x2) 2 (K 4 0) x3) 3 (K 4 0) (vp_nar .boolean 1)) 5 ((K 5 0) + 1)))) (ref := "SecretBroker$Leased") (ty := .int) C hX2_add_X1 tyX1 tyX1_ok nmX1 0 rfl rfl 5 (by decide) kX2_add_29 (fun _ h9 => h9) rfl (by decide +kernel) rfl rfl (Nat.le_of_ble_eq_true rfl) dX2_add_59 (zs_val (za (za (za (za K 0 (K 4 0) x1) 1 (K 4 0) x2) 2 (K 4 0) x3) 3 (K 4 0) (vp_nar .boolean 1)) 5 ((K 5 0) + 1)) (zf_X1_5 cI cJ cZ a1 (za (za (za (za K 0 (K 4 0) x1) 1 (K 4 0) x2) 2 (K 4 0) x3) 3 (K 4 0) (vp_nar .boolean 1)) ((K 5 0) + 1)) ?_
    refine z_aload_n C dX2_add_62 rfl 0 rfl ?_
    refine z_dup C dX2_add_63 rfl ?_
    refine z_get (ref := "SecretBroker$Leased") (v := .int (K 4 0)) C hX2_add_X1 0 rfl rfl 4 (by decide) kX2_add_25 (fun _ h9 => h9) rfl dX2_add_64 ?_
    refine z_iconst (v := 1) C dX2_add_67 (by decide) ?_
    refine z_iadd C dX2_add_68 ?_
    refine z_put (ws' := (zwX1 cI cJ cZ a1 (zs (zs (za (za (za (za K 0 (K 4 0) x1) 1 (K 4 0) x2) 2 (K 4 0) x3) 3 (K 4 0) (vp_nar .boolean 1)) 5 ((K 5 0) + 1)) 4 ((K 4 0) + 1)))) (ref := "SecretBroker$Leased") (ty := .int) C hX2_add_X1 tyX1 tyX1_ok nmX1 0 rfl rfl 4 (by decide) kX2_add_25 (fun _ h9 => h9) rfl (by decide +kernel) rfl rfl (Nat.le_of_ble_eq_true rfl) dX2_add_69 (zs_val (zs (za (za (za (za K 0 (K 4 0) x1) 1 (K 4 0) x2) 2 (K 4 0) x3) 3 (K 4 0) (vp_nar .boolean 1)) 5 ((K 5 0) + 1)) 4 ((K 4 0) + 1)) (zf_X1_4 cI cJ cZ a1 (zs (za (za (za (za K 0 (K 4 0) x1) 1 (K 4 0) x2) 2 (K 4 0) x3) 3 (K 4 0) (vp_nar .boolean 1)) 5 ((K 5 0) + 1)) ((K 4 0) + 1)) ?_
    refine z_aload_n C dX2_add_72 rfl 0 rfl ?_
    refine z_get (ref := "SecretBroker$Leased") (v := .int ((zs (zs (za (za (za (za K 0 (K 4 0) x1) 1 (K 4 0) x2) 2 (K 4 0) x3) 3 (K 4 0) (vp_nar .boolean 1)) 5 ((K 5 0) + 1)) 4 ((K 4 0) + 1)) 4 0)) C hX2_add_X1 0 rfl rfl 4 (by decide) kX2_add_25 (fun _ h9 => h9) rfl dX2_add_73 ?_
    refine z_iconst (v := 1) C dX2_add_76 (by decide) ?_
    refine z_isub C dX2_add_77 ?_
    have hu := Option.some.inj hF
    subst hu
    exact z_iret C dX2_add_78 rfl rfl
  · have hF := zelse hF c1
    refine z_iconst (v := (-1)) C dX2_add_10 (by decide) ?_
    have hu := Option.some.inj hF
    subst hu
    exact z_iret C dX2_add_11 rfl rfl
theorem kX2_prolong_9 : Cond.fieldLink RX2 9 "SecretBroker$Leased" "beginnings" "[I" ∈ wsX2_prolong := by decide +kernel
theorem kX2_prolong_18 : Cond.fieldLink RX2 18 "SecretBroker$Leased" "bounds" "[I" ∈ wsX2_prolong := by decide +kernel
theorem kX2_prolong_15 : Cond.fieldLink RX2 15 "SecretBroker$Leased" "ends" "[I" ∈ wsX2_prolong := by decide +kernel
theorem kX2_prolong_36 : Cond.methodLink RX2 36 Lib.Math.min.name ∈ wsX2_prolong := by decide +kernel
theorem kX2_prolong_90000 : Cond.static Lib.Math.min.name ∈ wsX2_prolong := by decide +kernel
theorem kX2_prolong_90002 : Cond.initialized "java/lang/Math" ∈ wsX2_prolong := by decide +kernel
theorem kX2_prolong_90004 : Cond.code Lib.Math.min.name Lib.Math.min.code 2 (some .int) ∈ wsX2_prolong := by decide +kernel
theorem kX2_prolong_42 : Cond.methodLink RX2 42 Lib.Math.max.name ∈ wsX2_prolong := by decide +kernel
theorem kX2_prolong_90001 : Cond.static Lib.Math.max.name ∈ wsX2_prolong := by decide +kernel
theorem kX2_prolong_90005 : Cond.code Lib.Math.max.name Lib.Math.max.code 2 (some .int) ∈ wsX2_prolong := by decide +kernel
theorem hX2_prolong_X6 : ∀ w ∈ wsX60, w ∈ wsX2_prolong := by decide +kernel
set_option maxHeartbeats 4000000 in
set_option maxRecDepth 100000 in
theorem c_X2_prolong_6 (l : Launch) (D : va_G) (cI cJ cZ : ClassId) (a6 : Nat → Nat) (T : SS) (x1 : Int32) (x2 : Int32) (x3 : Int32) (u : SS) (hF : f_X2_prolong T x1 x2 x3 = some u) : zM l yX2_prolong wsX2_prolong ({ frames := 1, cells := 0, slots := 0, locals := 21 }) D (zTy cI cJ cZ) [.ref (a6 0), .int x1, .int x2, .int x3] (zwX6 cI cJ cZ a6 T) none (zwX6 cI cJ cZ a6 u) := by
  refine z_body (cc := cX2_prolong) (maxL := 5) (rty := none) (own := RX2) (lv := [(0, .ref (a6 0)), (1, .int x1), (2, .int x2), (3, .int x3)]) (by decide +kernel) rfl rfl (Nat.le_of_ble_eq_true rfl) rfl (fun p e s m args below meth c A C => ?_)
  refine z_aload_n C dX2_prolong_0 rfl 0 rfl ?_
  refine z_iload_n C dX2_prolong_1 rfl 1 rfl ?_
  obtain ⟨r1, er1, hF⟩ := zbd hF
  refine z_callU (n := 1) (As := [.int x1]) (ws' := (zwX6 cI cJ cZ a6 T)) C (c_X2_has_6 l D cI cJ cZ a6 T x1 r1 er1) gX2_prolong_X2_has_u32X6 rfl rfl rfl rfl (by decide +kernel) ⟨Nat.le_of_ble_eq_true rfl, Nat.le_of_ble_eq_true rfl⟩ ⟨Nat.zero_le _, Nat.zero_le _⟩ 0 rfl rfl [] [] rfl rfl rfl rfl (Nat.le_of_ble_eq_true rfl) dX2_prolong_2 ?_
  refine z_if_eq (tgt := 46) C dX2_prolong_5 (by decide) (fun c2 => ?_) (fun c2 => ?_)
  · have hF := zif hF c2
    have hu := Option.some.inj hF
    subst hu
    exact z_vret C dX2_prolong_46 rfl
  · have hF := zelse hF c2
    refine z_aload_n C dX2_prolong_8 rfl 0 rfl ?_
    refine z_get (ref := "SecretBroker$Leased") (v := .ref (a6 1)) C hX2_prolong_X6 0 rfl rfl 0 (by decide) kX2_prolong_9 (fun _ h9 => h9) rfl dX2_prolong_9 ?_
    refine z_iload_n C dX2_prolong_12 rfl 1 rfl ?_
    obtain ⟨g3, hF⟩ := zix_some hF
    refine z_iald (v := ((T 0) x1.toNatClampNeg)) C g3 1 rfl rfl rfl dX2_prolong_13 ?_
    refine z_aload_n C dX2_prolong_14 rfl 0 rfl ?_
    refine z_get (ref := "SecretBroker$Leased") (v := .ref (a6 3)) C hX2_prolong_X6 0 rfl rfl 2 (by decide) kX2_prolong_18 (fun _ h9 => h9) rfl dX2_prolong_15 ?_
    refine z_iload_n C dX2_prolong_18 rfl 1 rfl ?_
    obtain ⟨g4, hF⟩ := zix_some hF
    refine z_iald (v := ((T 2) x1.toNatClampNeg)) C g4 3 rfl rfl rfl dX2_prolong_19 ?_
    refine z_iadd C dX2_prolong_20 ?_
    refine z_istore (lv' := [(4, .int (((T 0) x1.toNatClampNeg) + ((T 2) x1.toNatClampNeg))), (0, .ref (a6 0)), (1, .int x1), (2, .int x2), (3, .int x3)]) C dX2_prolong_21 (by decide) rfl ?_
    refine z_aload_n C dX2_prolong_23 rfl 1 rfl ?_
    refine z_get (ref := "SecretBroker$Leased") (v := .ref (a6 2)) C hX2_prolong_X6 0 rfl rfl 1 (by decide) kX2_prolong_15 (fun _ h9 => h9) rfl dX2_prolong_24 ?_
    refine z_iload_n C dX2_prolong_27 rfl 2 rfl ?_
    refine z_aload_n C dX2_prolong_28 rfl 1 rfl ?_
    refine z_get (ref := "SecretBroker$Leased") (v := .ref (a6 2)) C hX2_prolong_X6 0 rfl rfl 1 (by decide) kX2_prolong_15 (fun _ h9 => h9) rfl dX2_prolong_29 ?_
    refine z_iload_n C dX2_prolong_32 rfl 2 rfl ?_
    obtain ⟨g5, hF⟩ := zix_some hF
    refine z_iald (v := ((T 1) x1.toNatClampNeg)) C g5 2 rfl rfl rfl dX2_prolong_33 ?_
    refine z_iload_n C dX2_prolong_34 rfl 3 rfl ?_
    refine z_iload_n C dX2_prolong_35 rfl 4 rfl ?_
    refine z_iadd C dX2_prolong_36 ?_
    refine z_iload C dX2_prolong_37 0 rfl ?_
    refine z_mmin C kX2_prolong_36 kX2_prolong_90000 kX2_prolong_90002 kX2_prolong_90004 (Nat.le_of_ble_eq_true rfl) (Nat.le_of_ble_eq_true rfl) ⟨Nat.zero_le _, Nat.zero_le _⟩ dX2_prolong_39 ?_
    refine z_mmax C kX2_prolong_42 kX2_prolong_90001 kX2_prolong_90002 kX2_prolong_90005 (Nat.le_of_ble_eq_true rfl) (Nat.le_of_ble_eq_true rfl) ⟨Nat.zero_le _, Nat.zero_le _⟩ dX2_prolong_42 ?_
    obtain ⟨g6, hF⟩ := zix_some hF
    refine z_iast (ws' := (zwX6 cI cJ cZ a6 (za T 1 x1 (if ((T 1) x1.toNatClampNeg) < (if (((T 0) x1.toNatClampNeg) + ((T 2) x1.toNatClampNeg)) < (x2 + x3) then (((T 0) x1.toNatClampNeg) + ((T 2) x1.toNatClampNeg)) else (x2 + x3)) then (if (((T 0) x1.toNatClampNeg) + ((T 2) x1.toNatClampNeg)) < (x2 + x3) then (((T 0) x1.toNatClampNeg) + ((T 2) x1.toNatClampNeg)) else (x2 + x3)) else ((T 1) x1.toNatClampNeg))))) C g6 2 rfl rfl dX2_prolong_45 (za_row T 1 x1 (if ((T 1) x1.toNatClampNeg) < (if (((T 0) x1.toNatClampNeg) + ((T 2) x1.toNatClampNeg)) < (x2 + x3) then (((T 0) x1.toNatClampNeg) + ((T 2) x1.toNatClampNeg)) else (x2 + x3)) then (if (((T 0) x1.toNatClampNeg) + ((T 2) x1.toNatClampNeg)) < (x2 + x3) then (((T 0) x1.toNatClampNeg) + ((T 2) x1.toNatClampNeg)) else (x2 + x3)) else ((T 1) x1.toNatClampNeg))) (zr_X6_1 cI cJ cZ a6 T x1 (if ((T 1) x1.toNatClampNeg) < (if (((T 0) x1.toNatClampNeg) + ((T 2) x1.toNatClampNeg)) < (x2 + x3) then (((T 0) x1.toNatClampNeg) + ((T 2) x1.toNatClampNeg)) else (x2 + x3)) then (if (((T 0) x1.toNatClampNeg) + ((T 2) x1.toNatClampNeg)) < (x2 + x3) then (((T 0) x1.toNatClampNeg) + ((T 2) x1.toNatClampNeg)) else (x2 + x3)) else ((T 1) x1.toNatClampNeg))) ?_
    have hu := Option.some.inj hF
    subst hu
    exact z_vret C dX2_prolong_46 rfl
theorem hX2_prolong_X1 : ∀ w ∈ wsX10, w ∈ wsX2_prolong := by decide +kernel
set_option maxHeartbeats 4000000 in
set_option maxRecDepth 100000 in
theorem c_X2_prolong_1 (l : Launch) (D : va_G) (cI cJ cZ : ClassId) (a1 : Nat → Nat) (K : SS) (x1 : Int32) (x2 : Int32) (x3 : Int32) (u : SS) (hF : f_X2_prolong K x1 x2 x3 = some u) : zM l yX2_prolong wsX2_prolong ({ frames := 1, cells := 0, slots := 0, locals := 21 }) D (zTy cI cJ cZ) [.ref (a1 0), .int x1, .int x2, .int x3] (zwX1 cI cJ cZ a1 K) none (zwX1 cI cJ cZ a1 u) := by
  refine z_body (cc := cX2_prolong) (maxL := 5) (rty := none) (own := RX2) (lv := [(0, .ref (a1 0)), (1, .int x1), (2, .int x2), (3, .int x3)]) (by decide +kernel) rfl rfl (Nat.le_of_ble_eq_true rfl) rfl (fun p e s m args below meth c A C => ?_)
  refine z_aload_n C dX2_prolong_0 rfl 0 rfl ?_
  refine z_iload_n C dX2_prolong_1 rfl 1 rfl ?_
  obtain ⟨r1, er1, hF⟩ := zbd hF
  refine z_callU (n := 1) (As := [.int x1]) (ws' := (zwX1 cI cJ cZ a1 K)) C (c_X2_has_1 l D cI cJ cZ a1 K x1 r1 er1) gX2_prolong_X2_has_u32X1 rfl rfl rfl rfl (by decide +kernel) ⟨Nat.le_of_ble_eq_true rfl, Nat.le_of_ble_eq_true rfl⟩ ⟨Nat.zero_le _, Nat.zero_le _⟩ 0 rfl rfl [] [] rfl rfl rfl rfl (Nat.le_of_ble_eq_true rfl) dX2_prolong_2 ?_
  refine z_if_eq (tgt := 46) C dX2_prolong_5 (by decide) (fun c2 => ?_) (fun c2 => ?_)
  · have hF := zif hF c2
    have hu := Option.some.inj hF
    subst hu
    exact z_vret C dX2_prolong_46 rfl
  · have hF := zelse hF c2
    refine z_aload_n C dX2_prolong_8 rfl 0 rfl ?_
    refine z_get (ref := "SecretBroker$Leased") (v := .ref (a1 1)) C hX2_prolong_X1 0 rfl rfl 0 (by decide) kX2_prolong_9 (fun _ h9 => h9) rfl dX2_prolong_9 ?_
    refine z_iload_n C dX2_prolong_12 rfl 1 rfl ?_
    obtain ⟨g3, hF⟩ := zix_some hF
    refine z_iald (v := ((K 0) x1.toNatClampNeg)) C g3 1 rfl rfl rfl dX2_prolong_13 ?_
    refine z_aload_n C dX2_prolong_14 rfl 0 rfl ?_
    refine z_get (ref := "SecretBroker$Leased") (v := .ref (a1 3)) C hX2_prolong_X1 0 rfl rfl 2 (by decide) kX2_prolong_18 (fun _ h9 => h9) rfl dX2_prolong_15 ?_
    refine z_iload_n C dX2_prolong_18 rfl 1 rfl ?_
    obtain ⟨g4, hF⟩ := zix_some hF
    refine z_iald (v := ((K 2) x1.toNatClampNeg)) C g4 3 rfl rfl rfl dX2_prolong_19 ?_
    refine z_iadd C dX2_prolong_20 ?_
    refine z_istore (lv' := [(4, .int (((K 0) x1.toNatClampNeg) + ((K 2) x1.toNatClampNeg))), (0, .ref (a1 0)), (1, .int x1), (2, .int x2), (3, .int x3)]) C dX2_prolong_21 (by decide) rfl ?_
    refine z_aload_n C dX2_prolong_23 rfl 1 rfl ?_
    refine z_get (ref := "SecretBroker$Leased") (v := .ref (a1 2)) C hX2_prolong_X1 0 rfl rfl 1 (by decide) kX2_prolong_15 (fun _ h9 => h9) rfl dX2_prolong_24 ?_
    refine z_iload_n C dX2_prolong_27 rfl 2 rfl ?_
    refine z_aload_n C dX2_prolong_28 rfl 1 rfl ?_
    refine z_get (ref := "SecretBroker$Leased") (v := .ref (a1 2)) C hX2_prolong_X1 0 rfl rfl 1 (by decide) kX2_prolong_15 (fun _ h9 => h9) rfl dX2_prolong_29 ?_
    refine z_iload_n C dX2_prolong_32 rfl 2 rfl ?_
    obtain ⟨g5, hF⟩ := zix_some hF
    refine z_iald (v := ((K 1) x1.toNatClampNeg)) C g5 2 rfl rfl rfl dX2_prolong_33 ?_
    refine z_iload_n C dX2_prolong_34 rfl 3 rfl ?_
    refine z_iload_n C dX2_prolong_35 rfl 4 rfl ?_
    refine z_iadd C dX2_prolong_36 ?_
    refine z_iload C dX2_prolong_37 0 rfl ?_
    refine z_mmin C kX2_prolong_36 kX2_prolong_90000 kX2_prolong_90002 kX2_prolong_90004 (Nat.le_of_ble_eq_true rfl) (Nat.le_of_ble_eq_true rfl) ⟨Nat.zero_le _, Nat.zero_le _⟩ dX2_prolong_39 ?_
    refine z_mmax C kX2_prolong_42 kX2_prolong_90001 kX2_prolong_90002 kX2_prolong_90005 (Nat.le_of_ble_eq_true rfl) (Nat.le_of_ble_eq_true rfl) ⟨Nat.zero_le _, Nat.zero_le _⟩ dX2_prolong_42 ?_
    obtain ⟨g6, hF⟩ := zix_some hF
    refine z_iast (ws' := (zwX1 cI cJ cZ a1 (za K 1 x1 (if ((K 1) x1.toNatClampNeg) < (if (((K 0) x1.toNatClampNeg) + ((K 2) x1.toNatClampNeg)) < (x2 + x3) then (((K 0) x1.toNatClampNeg) + ((K 2) x1.toNatClampNeg)) else (x2 + x3)) then (if (((K 0) x1.toNatClampNeg) + ((K 2) x1.toNatClampNeg)) < (x2 + x3) then (((K 0) x1.toNatClampNeg) + ((K 2) x1.toNatClampNeg)) else (x2 + x3)) else ((K 1) x1.toNatClampNeg))))) C g6 2 rfl rfl dX2_prolong_45 (za_row K 1 x1 (if ((K 1) x1.toNatClampNeg) < (if (((K 0) x1.toNatClampNeg) + ((K 2) x1.toNatClampNeg)) < (x2 + x3) then (((K 0) x1.toNatClampNeg) + ((K 2) x1.toNatClampNeg)) else (x2 + x3)) then (if (((K 0) x1.toNatClampNeg) + ((K 2) x1.toNatClampNeg)) < (x2 + x3) then (((K 0) x1.toNatClampNeg) + ((K 2) x1.toNatClampNeg)) else (x2 + x3)) else ((K 1) x1.toNatClampNeg))) (zr_X1_1 cI cJ cZ a1 K x1 (if ((K 1) x1.toNatClampNeg) < (if (((K 0) x1.toNatClampNeg) + ((K 2) x1.toNatClampNeg)) < (x2 + x3) then (((K 0) x1.toNatClampNeg) + ((K 2) x1.toNatClampNeg)) else (x2 + x3)) then (if (((K 0) x1.toNatClampNeg) + ((K 2) x1.toNatClampNeg)) < (x2 + x3) then (((K 0) x1.toNatClampNeg) + ((K 2) x1.toNatClampNeg)) else (x2 + x3)) else ((K 1) x1.toNatClampNeg))) ?_
    have hu := Option.some.inj hF
    subst hu
    exact z_vret C dX2_prolong_46 rfl
theorem hX2_end_X6 : ∀ w ∈ wsX60, w ∈ wsX2_end := by decide +kernel
set_option maxHeartbeats 4000000 in
set_option maxRecDepth 100000 in
theorem c_X2_end_6 (l : Launch) (D : va_G) (cI cJ cZ : ClassId) (a6 : Nat → Nat) (T : SS) (x1 : Int32) (u : Int32 × SS) (hF : f_X2_end T x1 = some u) : zM l yX2_end wsX2_end ({ frames := 2, cells := 0, slots := 0, locals := 42 }) D (zTy cI cJ cZ) [.ref (a6 0), .int x1] (zwX6 cI cJ cZ a6 T) (some (.int u.1)) (zwX6 cI cJ cZ a6 u.2) := by
  refine z_body (cc := cX2_end) (maxL := 2) (rty := (some .int)) (own := RX2) (lv := [(0, .ref (a6 0)), (1, .int x1)]) (by decide +kernel) rfl rfl (Nat.le_of_ble_eq_true rfl) rfl (fun p e s m args below meth c A C => ?_)
  refine z_aload_n C dX2_end_0 rfl 0 rfl ?_
  refine z_iload_n C dX2_end_1 rfl 1 rfl ?_
  obtain ⟨r1, er1, hF⟩ := zbd hF
  refine z_callU (n := 1) (As := [.int x1]) (ws' := (zwX6 cI cJ cZ a6 T)) C (c_X2_isOn_6 l D cI cJ cZ a6 T x1 r1 er1) gX2_end_X2_isOn_u45X6 rfl rfl rfl rfl (by decide +kernel) ⟨Nat.le_of_ble_eq_true rfl, Nat.le_of_ble_eq_true rfl⟩ ⟨Nat.zero_le _, Nat.zero_le _⟩ 0 rfl rfl [] [] rfl rfl rfl rfl (Nat.le_of_ble_eq_true rfl) dX2_end_2 ?_
  refine z_if_ne (tgt := 10) C dX2_end_5 (by decide) (fun c2 => ?_) (fun c2 => ?_)
  · have hF := zelse hF c2
    refine z_aload_n C dX2_end_10 rfl 0 rfl ?_
    refine z_get (ref := "SecretBroker$Leased") (v := .ref (a6 4)) C hX2_end_X6 0 rfl rfl 3 (by decide) kX2_end_21 (fun _ h9 => h9) rfl dX2_end_11 ?_
    refine z_iload_n C dX2_end_14 rfl 1 rfl ?_
    refine z_iconst (v := 0) C dX2_end_15 (by decide) ?_
    obtain ⟨g3, hF⟩ := zix_some hF
    refine z_zast (ws' := (zwX6 cI cJ cZ a6 (za T 3 x1 (vp_nar .boolean 0)))) C g3 4 rfl rfl dX2_end_16 (za_row T 3 x1 (vp_nar .boolean 0)) (zr_X6_3 cI cJ cZ a6 T x1 (vp_nar .boolean 0)) ?_
    refine z_aload_n C dX2_end_17 rfl 0 rfl ?_
    refine z_dup C dX2_end_18 rfl ?_
    refine z_get (ref := "SecretBroker$Leased") (v := .int (T 5 0)) C hX2_end_X6 0 rfl rfl 5 (by decide) kX2_end_29 (fun _ h9 => h9) rfl dX2_end_19 ?_
    refine z_iconst (v := 1) C dX2_end_22 (by decide) ?_
    refine z_isub C dX2_end_23 ?_
    refine z_put (ws' := (zwX6 cI cJ cZ a6 (zs (za T 3 x1 (vp_nar .boolean 0)) 5 ((T 5 0) - 1)))) (ref := "SecretBroker$Leased") (ty := .int) C hX2_end_X6 tyX6 tyX6_ok nmX6 0 rfl rfl 5 (by decide) kX2_end_29 (fun _ h9 => h9) rfl (by decide +kernel) rfl rfl (Nat.le_of_ble_eq_true rfl) dX2_end_24 (zs_val (za T 3 x1 (vp_nar .boolean 0)) 5 ((T 5 0) - 1)) (zf_X6_5 cI cJ cZ a6 (za T 3 x1 (vp_nar .boolean 0)) ((T 5 0) - 1)) ?_
    refine z_iconst (v := 1) C dX2_end_27 (by decide) ?_
    have hu := Option.some.inj hF
    subst hu
    exact z_iret C dX2_end_28 rfl rfl
  · have hF := zif hF c2
    refine z_iconst (v := 0) C dX2_end_8 (by decide) ?_
    have hu := Option.some.inj hF
    subst hu
    exact z_iret C dX2_end_9 rfl rfl
theorem kX2_endByTime_25 : Cond.fieldLink RX2 25 "SecretBroker$Leased" "made" "I" ∈ wsX2_endByTime := by decide +kernel
theorem kX2_endByTime_15 : Cond.fieldLink RX2 15 "SecretBroker$Leased" "ends" "[I" ∈ wsX2_endByTime := by decide +kernel
theorem hX2_endByTime_X6 : ∀ w ∈ wsX60, w ∈ wsX2_endByTime := by decide +kernel
set_option maxHeartbeats 4000000 in
set_option maxRecDepth 100000 in
theorem c_X2_endByTime_6_j4 (l : Launch) (D : va_G) (cI cJ cZ : ClassId) (a6 : Nat → Nat) (T : SS) (u : Int32 × SS) {p : Program} {e : Env} {s : State} {m : MethodId} {args : Array Value} {below : List Frame} {meth : Method} {c : Code} {A : Nat → Prop} (C : zC p s m args meth c cX2_endByTime 4 (some .int) RX2 wsX2_endByTime D (zTy cI cJ cZ) A s.heap) : ∀ (n : Nat) (Tc : SS) (v1 : Int32) (v2 : Int32) (v3 : Int32), f_X2_endByTime_4 n Tc v1 v2 v3 = some u → zW p l e { frames := 3, cells := 0, slots := 0, locals := 63 } s m args below meth c 4 D A s.heap 0 0 (MQ below (zQ D (zTy cI cJ cZ) (some (.int u.1)) (zwX6 cI cJ cZ a6 u.2) A) args s 0 0 A) (zwX6 cI cJ cZ a6 Tc) [(0, .ref (a6 0)), (1, .int v1), (2, .int v2), (3, .int v3)] 4 [] := by
  intro n
  induction n with
  | zero => intro Tc v1 v2 v3 hF; exact absurd (show none = some u from hF) (fun q => nomatch q)
  | succ n ih =>
    intro Tc v1 v2 v3 hF
    refine z_iload_n C dX2_endByTime_4 rfl 3 rfl ?_
    refine z_aload_n C dX2_endByTime_5 rfl 0 rfl ?_
    refine z_get (ref := "SecretBroker$Leased") (v := .int (Tc 4 0)) C hX2_endByTime_X6 0 rfl rfl 4 (by decide) kX2_endByTime_25 (fun _ h9 => h9) rfl dX2_endByTime_6 ?_
    refine z_icmp_ge (tgt := 46) C dX2_endByTime_9 (by decide) (fun c1 => ?_) (fun c1 => ?_)
    · have hF := zif hF c1
      refine z_iload_n C dX2_endByTime_46 rfl 2 rfl ?_
      have hu := Option.some.inj hF
      subst hu
      exact z_iret C dX2_endByTime_47 rfl rfl
    · have hF := zelse hF c1
      refine z_aload_n C dX2_endByTime_12 rfl 0 rfl ?_
      refine z_get (ref := "SecretBroker$Leased") (v := .ref (a6 2)) C hX2_endByTime_X6 0 rfl rfl 1 (by decide) kX2_endByTime_15 (fun _ h9 => h9) rfl dX2_endByTime_13 ?_
      refine z_iload_n C dX2_endByTime_16 rfl 3 rfl ?_
      obtain ⟨g2, hF⟩ := zix_some hF
      refine z_iald (v := ((Tc 1) v3.toNatClampNeg)) C g2 2 rfl rfl rfl dX2_endByTime_17 ?_
      refine z_iconst (v := (-1)) C dX2_endByTime_18 (by decide) ?_
      refine z_icmp_eq (tgt := 40) C dX2_endByTime_19 (by decide) (fun c3 => ?_) (fun c3 => ?_)
      · have hF := zif hF c3
        refine z_iinc (v := (v3 + 1)) (lv' := [(3, .int (v3 + 1)), (0, .ref (a6 0)), (1, .int v1), (2, .int v2)]) C dX2_endByTime_40 3 rfl rfl (by decide) rfl ?_
        refine z_goto (tgt := 4) C dX2_endByTime_43 (by decide) ?_
        exact z_sub C [1, 2, 3, 0] rfl (ih Tc v1 v2 (v3 + 1) hF)
      · have hF := zelse hF c3
        refine z_aload_n C dX2_endByTime_22 rfl 0 rfl ?_
        refine z_get (ref := "SecretBroker$Leased") (v := .ref (a6 2)) C hX2_endByTime_X6 0 rfl rfl 1 (by decide) kX2_endByTime_15 (fun _ h9 => h9) rfl dX2_endByTime_23 ?_
        refine z_iload_n C dX2_endByTime_26 rfl 3 rfl ?_
        obtain ⟨g4, hF⟩ := zix_some hF
        refine z_iald (v := ((Tc 1) v3.toNatClampNeg)) C g4 2 rfl rfl rfl dX2_endByTime_27 ?_
        refine z_iload_n C dX2_endByTime_28 rfl 1 rfl ?_
        refine z_icmp_gt (tgt := 40) C dX2_endByTime_29 (by decide) (fun c5 => ?_) (fun c5 => ?_)
        · have hF := zif hF c5
          refine z_iinc (v := (v3 + 1)) (lv' := [(3, .int (v3 + 1)), (0, .ref (a6 0)), (1, .int v1), (2, .int v2)]) C dX2_endByTime_40 3 rfl rfl (by decide) rfl ?_
          refine z_goto (tgt := 4) C dX2_endByTime_43 (by decide) ?_
          exact z_sub C [1, 2, 3, 0] rfl (ih Tc v1 v2 (v3 + 1) hF)
        · have hF := zelse hF c5
          refine z_iload_n C dX2_endByTime_32 rfl 2 rfl ?_
          refine z_aload_n C dX2_endByTime_33 rfl 0 rfl ?_
          refine z_iload_n C dX2_endByTime_34 rfl 3 rfl ?_
          obtain ⟨r6, er6, hF⟩ := zbd hF
          refine z_callU (n := 1) (As := [.int v3]) (ws' := (zwX6 cI cJ cZ a6 r6.2)) C (c_X2_end_6 l D cI cJ cZ a6 Tc v3 r6 er6) gX2_endByTime_X2_end_u48X6 rfl rfl rfl rfl (by decide +kernel) ⟨Nat.le_of_ble_eq_true rfl, Nat.le_of_ble_eq_true rfl⟩ ⟨Nat.zero_le _, Nat.zero_le _⟩ 0 rfl rfl [] [] rfl rfl rfl rfl (Nat.le_of_ble_eq_true rfl) dX2_endByTime_35 ?_
          refine z_iadd C dX2_endByTime_38 ?_
          refine z_istore_n (lv' := [(2, .int (v2 + r6.1)), (0, .ref (a6 0)), (1, .int v1), (3, .int v3)]) C dX2_endByTime_39 rfl (by decide) rfl ?_
          refine z_iinc (v := (v3 + 1)) (lv' := [(3, .int (v3 + 1)), (2, .int (v2 + r6.1)), (0, .ref (a6 0)), (1, .int v1)]) C dX2_endByTime_40 3 rfl rfl (by decide) rfl ?_
          refine z_goto (tgt := 4) C dX2_endByTime_43 (by decide) ?_
          exact z_sub C [2, 3, 1, 0] rfl (ih r6.2 v1 (v2 + r6.1) (v3 + 1) hF)
set_option maxHeartbeats 4000000 in
set_option maxRecDepth 100000 in
theorem c_X2_endByTime_6 (l : Launch) (D : va_G) (cI cJ cZ : ClassId) (a6 : Nat → Nat) (T : SS) (x1 : Int32) (u : Int32 × SS) (hF : f_X2_endByTime T x1 = some u) : zM l yX2_endByTime wsX2_endByTime ({ frames := 3, cells := 0, slots := 0, locals := 63 }) D (zTy cI cJ cZ) [.ref (a6 0), .int x1] (zwX6 cI cJ cZ a6 T) (some (.int u.1)) (zwX6 cI cJ cZ a6 u.2) := by
  refine z_body (cc := cX2_endByTime) (maxL := 4) (rty := (some .int)) (own := RX2) (lv := [(0, .ref (a6 0)), (1, .int x1)]) (by decide +kernel) rfl rfl (Nat.le_of_ble_eq_true rfl) rfl (fun p e s m args below meth c A C => ?_)
  refine z_iconst (v := 0) C dX2_endByTime_0 (by decide) ?_
  refine z_istore_n (lv' := [(2, .int 0), (0, .ref (a6 0)), (1, .int x1)]) C dX2_endByTime_1 rfl (by decide) rfl ?_
  refine z_iconst (v := 0) C dX2_endByTime_2 (by decide) ?_
  refine z_istore_n (lv' := [(3, .int 0), (2, .int 0), (0, .ref (a6 0)), (1, .int x1)]) C dX2_endByTime_3 rfl (by decide) rfl ?_
  exact z_sub C [2, 3, 1, 0] rfl (c_X2_endByTime_6_j4 l D cI cJ cZ a6 T u C 600 T x1 0 0 hF)
theorem hX2_endByTime_X1 : ∀ w ∈ wsX10, w ∈ wsX2_endByTime := by decide +kernel
set_option maxHeartbeats 4000000 in
set_option maxRecDepth 100000 in
theorem c_X2_endByTime_1_j4 (l : Launch) (D : va_G) (cI cJ cZ : ClassId) (a1 : Nat → Nat) (K : SS) (u : Int32 × SS) {p : Program} {e : Env} {s : State} {m : MethodId} {args : Array Value} {below : List Frame} {meth : Method} {c : Code} {A : Nat → Prop} (C : zC p s m args meth c cX2_endByTime 4 (some .int) RX2 wsX2_endByTime D (zTy cI cJ cZ) A s.heap) : ∀ (n : Nat) (Kc : SS) (v1 : Int32) (v2 : Int32) (v3 : Int32), f_X2_endByTime_4 n Kc v1 v2 v3 = some u → zW p l e { frames := 3, cells := 0, slots := 0, locals := 63 } s m args below meth c 4 D A s.heap 0 0 (MQ below (zQ D (zTy cI cJ cZ) (some (.int u.1)) (zwX1 cI cJ cZ a1 u.2) A) args s 0 0 A) (zwX1 cI cJ cZ a1 Kc) [(0, .ref (a1 0)), (1, .int v1), (2, .int v2), (3, .int v3)] 4 [] := by
  intro n
  induction n with
  | zero => intro Kc v1 v2 v3 hF; exact absurd (show none = some u from hF) (fun q => nomatch q)
  | succ n ih =>
    intro Kc v1 v2 v3 hF
    refine z_iload_n C dX2_endByTime_4 rfl 3 rfl ?_
    refine z_aload_n C dX2_endByTime_5 rfl 0 rfl ?_
    refine z_get (ref := "SecretBroker$Leased") (v := .int (Kc 4 0)) C hX2_endByTime_X1 0 rfl rfl 4 (by decide) kX2_endByTime_25 (fun _ h9 => h9) rfl dX2_endByTime_6 ?_
    refine z_icmp_ge (tgt := 46) C dX2_endByTime_9 (by decide) (fun c1 => ?_) (fun c1 => ?_)
    · have hF := zif hF c1
      refine z_iload_n C dX2_endByTime_46 rfl 2 rfl ?_
      have hu := Option.some.inj hF
      subst hu
      exact z_iret C dX2_endByTime_47 rfl rfl
    · have hF := zelse hF c1
      refine z_aload_n C dX2_endByTime_12 rfl 0 rfl ?_
      refine z_get (ref := "SecretBroker$Leased") (v := .ref (a1 2)) C hX2_endByTime_X1 0 rfl rfl 1 (by decide) kX2_endByTime_15 (fun _ h9 => h9) rfl dX2_endByTime_13 ?_
      refine z_iload_n C dX2_endByTime_16 rfl 3 rfl ?_
      obtain ⟨g2, hF⟩ := zix_some hF
      refine z_iald (v := ((Kc 1) v3.toNatClampNeg)) C g2 2 rfl rfl rfl dX2_endByTime_17 ?_
      refine z_iconst (v := (-1)) C dX2_endByTime_18 (by decide) ?_
      refine z_icmp_eq (tgt := 40) C dX2_endByTime_19 (by decide) (fun c3 => ?_) (fun c3 => ?_)
      · have hF := zif hF c3
        refine z_iinc (v := (v3 + 1)) (lv' := [(3, .int (v3 + 1)), (0, .ref (a1 0)), (1, .int v1), (2, .int v2)]) C dX2_endByTime_40 3 rfl rfl (by decide) rfl ?_
        refine z_goto (tgt := 4) C dX2_endByTime_43 (by decide) ?_
        exact z_sub C [1, 2, 3, 0] rfl (ih Kc v1 v2 (v3 + 1) hF)
      · have hF := zelse hF c3
        refine z_aload_n C dX2_endByTime_22 rfl 0 rfl ?_
        refine z_get (ref := "SecretBroker$Leased") (v := .ref (a1 2)) C hX2_endByTime_X1 0 rfl rfl 1 (by decide) kX2_endByTime_15 (fun _ h9 => h9) rfl dX2_endByTime_23 ?_
        refine z_iload_n C dX2_endByTime_26 rfl 3 rfl ?_
        obtain ⟨g4, hF⟩ := zix_some hF
        refine z_iald (v := ((Kc 1) v3.toNatClampNeg)) C g4 2 rfl rfl rfl dX2_endByTime_27 ?_
        refine z_iload_n C dX2_endByTime_28 rfl 1 rfl ?_
        refine z_icmp_gt (tgt := 40) C dX2_endByTime_29 (by decide) (fun c5 => ?_) (fun c5 => ?_)
        · have hF := zif hF c5
          refine z_iinc (v := (v3 + 1)) (lv' := [(3, .int (v3 + 1)), (0, .ref (a1 0)), (1, .int v1), (2, .int v2)]) C dX2_endByTime_40 3 rfl rfl (by decide) rfl ?_
          refine z_goto (tgt := 4) C dX2_endByTime_43 (by decide) ?_
          exact z_sub C [1, 2, 3, 0] rfl (ih Kc v1 v2 (v3 + 1) hF)
        · have hF := zelse hF c5
          refine z_iload_n C dX2_endByTime_32 rfl 2 rfl ?_
          refine z_aload_n C dX2_endByTime_33 rfl 0 rfl ?_
          refine z_iload_n C dX2_endByTime_34 rfl 3 rfl ?_
          obtain ⟨r6, er6, hF⟩ := zbd hF
          refine z_callU (n := 1) (As := [.int v3]) (ws' := (zwX1 cI cJ cZ a1 r6.2)) C (c_X2_end_1 l D cI cJ cZ a1 Kc v3 r6 er6) gX2_endByTime_X2_end_u48X1 rfl rfl rfl rfl (by decide +kernel) ⟨Nat.le_of_ble_eq_true rfl, Nat.le_of_ble_eq_true rfl⟩ ⟨Nat.zero_le _, Nat.zero_le _⟩ 0 rfl rfl [] [] rfl rfl rfl rfl (Nat.le_of_ble_eq_true rfl) dX2_endByTime_35 ?_
          refine z_iadd C dX2_endByTime_38 ?_
          refine z_istore_n (lv' := [(2, .int (v2 + r6.1)), (0, .ref (a1 0)), (1, .int v1), (3, .int v3)]) C dX2_endByTime_39 rfl (by decide) rfl ?_
          refine z_iinc (v := (v3 + 1)) (lv' := [(3, .int (v3 + 1)), (2, .int (v2 + r6.1)), (0, .ref (a1 0)), (1, .int v1)]) C dX2_endByTime_40 3 rfl rfl (by decide) rfl ?_
          refine z_goto (tgt := 4) C dX2_endByTime_43 (by decide) ?_
          exact z_sub C [2, 3, 1, 0] rfl (ih r6.2 v1 (v2 + r6.1) (v3 + 1) hF)
set_option maxHeartbeats 4000000 in
set_option maxRecDepth 100000 in
theorem c_X2_endByTime_1 (l : Launch) (D : va_G) (cI cJ cZ : ClassId) (a1 : Nat → Nat) (K : SS) (x1 : Int32) (u : Int32 × SS) (hF : f_X2_endByTime K x1 = some u) : zM l yX2_endByTime wsX2_endByTime ({ frames := 3, cells := 0, slots := 0, locals := 63 }) D (zTy cI cJ cZ) [.ref (a1 0), .int x1] (zwX1 cI cJ cZ a1 K) (some (.int u.1)) (zwX1 cI cJ cZ a1 u.2) := by
  refine z_body (cc := cX2_endByTime) (maxL := 4) (rty := (some .int)) (own := RX2) (lv := [(0, .ref (a1 0)), (1, .int x1)]) (by decide +kernel) rfl rfl (Nat.le_of_ble_eq_true rfl) rfl (fun p e s m args below meth c A C => ?_)
  refine z_iconst (v := 0) C dX2_endByTime_0 (by decide) ?_
  refine z_istore_n (lv' := [(2, .int 0), (0, .ref (a1 0)), (1, .int x1)]) C dX2_endByTime_1 rfl (by decide) rfl ?_
  refine z_iconst (v := 0) C dX2_endByTime_2 (by decide) ?_
  refine z_istore_n (lv' := [(3, .int 0), (2, .int 0), (0, .ref (a1 0)), (1, .int x1)]) C dX2_endByTime_3 rfl (by decide) rfl ?_
  exact z_sub C [2, 3, 1, 0] rfl (c_X2_endByTime_1_j4 l D cI cJ cZ a1 K u C 600 K x1 0 0 hF)
theorem kX2_firstEnd_25 : Cond.fieldLink RX2 25 "SecretBroker$Leased" "made" "I" ∈ wsX2_firstEnd := by decide +kernel
theorem kX2_firstEnd_21 : Cond.fieldLink RX2 21 "SecretBroker$Leased" "on" "[Z" ∈ wsX2_firstEnd := by decide +kernel
theorem kX2_firstEnd_15 : Cond.fieldLink RX2 15 "SecretBroker$Leased" "ends" "[I" ∈ wsX2_firstEnd := by decide +kernel
theorem hX2_firstEnd_X6 : ∀ w ∈ wsX60, w ∈ wsX2_firstEnd := by decide +kernel
set_option maxHeartbeats 4000000 in
set_option maxRecDepth 100000 in
theorem c_X2_firstEnd_6_j4 (l : Launch) (D : va_G) (cI cJ cZ : ClassId) (a6 : Nat → Nat) (T : SS) (u : Int32) {p : Program} {e : Env} {s : State} {m : MethodId} {args : Array Value} {below : List Frame} {meth : Method} {c : Code} {A : Nat → Prop} (C : zC p s m args meth c cX2_firstEnd 3 (some .int) RX2 wsX2_firstEnd D (zTy cI cJ cZ) A s.heap) : ∀ (n : Nat) (v1 : Int32) (v2 : Int32), f_X2_firstEnd_4 T n v1 v2 = some u → zW p l e { frames := 0, cells := 0, slots := 0, locals := 0 } s m args below meth c 3 D A s.heap 0 0 (MQ below (zQ D (zTy cI cJ cZ) (some (.int u)) (zwX6 cI cJ cZ a6 T) A) args s 0 0 A) (zwX6 cI cJ cZ a6 T) [(0, .ref (a6 0)), (1, .int v1), (2, .int v2)] 4 [] := by
  intro n
  induction n with
  | zero => intro v1 v2 hF; exact absurd (show none = some u from hF) (fun q => nomatch q)
  | succ n ih =>
    intro v1 v2 hF
    refine z_iload_n C dX2_firstEnd_4 rfl 2 rfl ?_
    refine z_aload_n C dX2_firstEnd_5 rfl 0 rfl ?_
    refine z_get (ref := "SecretBroker$Leased") (v := .int (T 4 0)) C hX2_firstEnd_X6 0 rfl rfl 4 (by decide) kX2_firstEnd_25 (fun _ h9 => h9) rfl dX2_firstEnd_6 ?_
    refine z_icmp_ge (tgt := 59) C dX2_firstEnd_9 (by decide) (fun c1 => ?_) (fun c1 => ?_)
    · have hF := zif hF c1
      refine z_iload_n C dX2_firstEnd_59 rfl 1 rfl ?_
      have hu := Option.some.inj hF
      subst hu
      exact z_iret C dX2_firstEnd_60 rfl rfl
    · have hF := zelse hF c1
      refine z_aload_n C dX2_firstEnd_12 rfl 0 rfl ?_
      refine z_get (ref := "SecretBroker$Leased") (v := .ref (a6 4)) C hX2_firstEnd_X6 0 rfl rfl 3 (by decide) kX2_firstEnd_21 (fun _ h9 => h9) rfl dX2_firstEnd_13 ?_
      refine z_iload_n C dX2_firstEnd_16 rfl 2 rfl ?_
      obtain ⟨g2, hF⟩ := zix_some hF
      refine z_zald (v := ((T 3) v2.toNatClampNeg)) C g2 4 rfl rfl rfl dX2_firstEnd_17 ?_
      refine z_if_eq (tgt := 53) C dX2_firstEnd_18 (by decide) (fun c3 => ?_) (fun c3 => ?_)
      · have hF := zif hF c3
        refine z_iinc (v := (v2 + 1)) (lv' := [(2, .int (v2 + 1)), (0, .ref (a6 0)), (1, .int v1)]) C dX2_firstEnd_53 2 rfl rfl (by decide) rfl ?_
        refine z_goto (tgt := 4) C dX2_firstEnd_56 (by decide) ?_
        exact z_sub C [1, 2, 0] rfl (ih v1 (v2 + 1) hF)
      · have hF := zelse hF c3
        refine z_aload_n C dX2_firstEnd_21 rfl 0 rfl ?_
        refine z_get (ref := "SecretBroker$Leased") (v := .ref (a6 2)) C hX2_firstEnd_X6 0 rfl rfl 1 (by decide) kX2_firstEnd_15 (fun _ h9 => h9) rfl dX2_firstEnd_22 ?_
        refine z_iload_n C dX2_firstEnd_25 rfl 2 rfl ?_
        obtain ⟨g4, hF⟩ := zix_some hF
        refine z_iald (v := ((T 1) v2.toNatClampNeg)) C g4 2 rfl rfl rfl dX2_firstEnd_26 ?_
        refine z_iconst (v := (-1)) C dX2_firstEnd_27 (by decide) ?_
        refine z_icmp_eq (tgt := 53) C dX2_firstEnd_28 (by decide) (fun c5 => ?_) (fun c5 => ?_)
        · have hF := zif hF c5
          refine z_iinc (v := (v2 + 1)) (lv' := [(2, .int (v2 + 1)), (0, .ref (a6 0)), (1, .int v1)]) C dX2_firstEnd_53 2 rfl rfl (by decide) rfl ?_
          refine z_goto (tgt := 4) C dX2_firstEnd_56 (by decide) ?_
          exact z_sub C [1, 2, 0] rfl (ih v1 (v2 + 1) hF)
        · have hF := zelse hF c5
          refine z_iload_n C dX2_firstEnd_31 rfl 1 rfl ?_
          refine z_iconst (v := (-1)) C dX2_firstEnd_32 (by decide) ?_
          refine z_icmp_eq (tgt := 46) C dX2_firstEnd_33 (by decide) (fun c6 => ?_) (fun c6 => ?_)
          · have hF := zif hF c6
            refine z_aload_n C dX2_firstEnd_46 rfl 0 rfl ?_
            refine z_get (ref := "SecretBroker$Leased") (v := .ref (a6 2)) C hX2_firstEnd_X6 0 rfl rfl 1 (by decide) kX2_firstEnd_15 (fun _ h9 => h9) rfl dX2_firstEnd_47 ?_
            refine z_iload_n C dX2_firstEnd_50 rfl 2 rfl ?_
            obtain ⟨g7, hF⟩ := zix_some hF
            refine z_iald (v := ((T 1) v2.toNatClampNeg)) C g7 2 rfl rfl rfl dX2_firstEnd_51 ?_
            refine z_istore_n (lv' := [(1, .int ((T 1) v2.toNatClampNeg)), (0, .ref (a6 0)), (2, .int v2)]) C dX2_firstEnd_52 rfl (by decide) rfl ?_
            refine z_iinc (v := (v2 + 1)) (lv' := [(2, .int (v2 + 1)), (1, .int ((T 1) v2.toNatClampNeg)), (0, .ref (a6 0))]) C dX2_firstEnd_53 2 rfl rfl (by decide) rfl ?_
            refine z_goto (tgt := 4) C dX2_firstEnd_56 (by decide) ?_
            exact z_sub C [2, 1, 0] rfl (ih ((T 1) v2.toNatClampNeg) (v2 + 1) hF)
          · have hF := zelse hF c6
            refine z_aload_n C dX2_firstEnd_36 rfl 0 rfl ?_
            refine z_get (ref := "SecretBroker$Leased") (v := .ref (a6 2)) C hX2_firstEnd_X6 0 rfl rfl 1 (by decide) kX2_firstEnd_15 (fun _ h9 => h9) rfl dX2_firstEnd_37 ?_
            refine z_iload_n C dX2_firstEnd_40 rfl 2 rfl ?_
            obtain ⟨g8, hF⟩ := zix_some hF
            refine z_iald (v := ((T 1) v2.toNatClampNeg)) C g8 2 rfl rfl rfl dX2_firstEnd_41 ?_
            refine z_iload_n C dX2_firstEnd_42 rfl 1 rfl ?_
            refine z_icmp_ge (tgt := 53) C dX2_firstEnd_43 (by decide) (fun c9 => ?_) (fun c9 => ?_)
            · have hF := zif hF c9
              refine z_iinc (v := (v2 + 1)) (lv' := [(2, .int (v2 + 1)), (0, .ref (a6 0)), (1, .int v1)]) C dX2_firstEnd_53 2 rfl rfl (by decide) rfl ?_
              refine z_goto (tgt := 4) C dX2_firstEnd_56 (by decide) ?_
              exact z_sub C [1, 2, 0] rfl (ih v1 (v2 + 1) hF)
            · have hF := zelse hF c9
              refine z_aload_n C dX2_firstEnd_46 rfl 0 rfl ?_
              refine z_get (ref := "SecretBroker$Leased") (v := .ref (a6 2)) C hX2_firstEnd_X6 0 rfl rfl 1 (by decide) kX2_firstEnd_15 (fun _ h9 => h9) rfl dX2_firstEnd_47 ?_
              refine z_iload_n C dX2_firstEnd_50 rfl 2 rfl ?_
              obtain ⟨g10, hF⟩ := zix_some hF
              refine z_iald (v := ((T 1) v2.toNatClampNeg)) C g10 2 rfl rfl rfl dX2_firstEnd_51 ?_
              refine z_istore_n (lv' := [(1, .int ((T 1) v2.toNatClampNeg)), (0, .ref (a6 0)), (2, .int v2)]) C dX2_firstEnd_52 rfl (by decide) rfl ?_
              refine z_iinc (v := (v2 + 1)) (lv' := [(2, .int (v2 + 1)), (1, .int ((T 1) v2.toNatClampNeg)), (0, .ref (a6 0))]) C dX2_firstEnd_53 2 rfl rfl (by decide) rfl ?_
              refine z_goto (tgt := 4) C dX2_firstEnd_56 (by decide) ?_
              exact z_sub C [2, 1, 0] rfl (ih ((T 1) v2.toNatClampNeg) (v2 + 1) hF)
set_option maxHeartbeats 4000000 in
set_option maxRecDepth 100000 in
theorem c_X2_firstEnd_6 (l : Launch) (D : va_G) (cI cJ cZ : ClassId) (a6 : Nat → Nat) (T : SS) (u : Int32) (hF : f_X2_firstEnd T = some u) : zM l yX2_firstEnd wsX2_firstEnd ({ frames := 0, cells := 0, slots := 0, locals := 0 }) D (zTy cI cJ cZ) [.ref (a6 0)] (zwX6 cI cJ cZ a6 T) (some (.int u)) (zwX6 cI cJ cZ a6 T) := by
  refine z_body (cc := cX2_firstEnd) (maxL := 3) (rty := (some .int)) (own := RX2) (lv := [(0, .ref (a6 0))]) (by decide +kernel) rfl rfl (Nat.le_of_ble_eq_true rfl) rfl (fun p e s m args below meth c A C => ?_)
  refine z_iconst (v := (-1)) C dX2_firstEnd_0 (by decide) ?_
  refine z_istore_n (lv' := [(1, .int (-1)), (0, .ref (a6 0))]) C dX2_firstEnd_1 rfl (by decide) rfl ?_
  refine z_iconst (v := 0) C dX2_firstEnd_2 (by decide) ?_
  refine z_istore_n (lv' := [(2, .int 0), (1, .int (-1)), (0, .ref (a6 0))]) C dX2_firstEnd_3 rfl (by decide) rfl ?_
  exact z_sub C [2, 1, 0] rfl (c_X2_firstEnd_6_j4 l D cI cJ cZ a6 T u C 600 (-1) 0 hF)
theorem hX2_firstEnd_X1 : ∀ w ∈ wsX10, w ∈ wsX2_firstEnd := by decide +kernel
set_option maxHeartbeats 4000000 in
set_option maxRecDepth 100000 in
theorem c_X2_firstEnd_1_j4 (l : Launch) (D : va_G) (cI cJ cZ : ClassId) (a1 : Nat → Nat) (K : SS) (u : Int32) {p : Program} {e : Env} {s : State} {m : MethodId} {args : Array Value} {below : List Frame} {meth : Method} {c : Code} {A : Nat → Prop} (C : zC p s m args meth c cX2_firstEnd 3 (some .int) RX2 wsX2_firstEnd D (zTy cI cJ cZ) A s.heap) : ∀ (n : Nat) (v1 : Int32) (v2 : Int32), f_X2_firstEnd_4 K n v1 v2 = some u → zW p l e { frames := 0, cells := 0, slots := 0, locals := 0 } s m args below meth c 3 D A s.heap 0 0 (MQ below (zQ D (zTy cI cJ cZ) (some (.int u)) (zwX1 cI cJ cZ a1 K) A) args s 0 0 A) (zwX1 cI cJ cZ a1 K) [(0, .ref (a1 0)), (1, .int v1), (2, .int v2)] 4 [] := by
  intro n
  induction n with
  | zero => intro v1 v2 hF; exact absurd (show none = some u from hF) (fun q => nomatch q)
  | succ n ih =>
    intro v1 v2 hF
    refine z_iload_n C dX2_firstEnd_4 rfl 2 rfl ?_
    refine z_aload_n C dX2_firstEnd_5 rfl 0 rfl ?_
    refine z_get (ref := "SecretBroker$Leased") (v := .int (K 4 0)) C hX2_firstEnd_X1 0 rfl rfl 4 (by decide) kX2_firstEnd_25 (fun _ h9 => h9) rfl dX2_firstEnd_6 ?_
    refine z_icmp_ge (tgt := 59) C dX2_firstEnd_9 (by decide) (fun c1 => ?_) (fun c1 => ?_)
    · have hF := zif hF c1
      refine z_iload_n C dX2_firstEnd_59 rfl 1 rfl ?_
      have hu := Option.some.inj hF
      subst hu
      exact z_iret C dX2_firstEnd_60 rfl rfl
    · have hF := zelse hF c1
      refine z_aload_n C dX2_firstEnd_12 rfl 0 rfl ?_
      refine z_get (ref := "SecretBroker$Leased") (v := .ref (a1 4)) C hX2_firstEnd_X1 0 rfl rfl 3 (by decide) kX2_firstEnd_21 (fun _ h9 => h9) rfl dX2_firstEnd_13 ?_
      refine z_iload_n C dX2_firstEnd_16 rfl 2 rfl ?_
      obtain ⟨g2, hF⟩ := zix_some hF
      refine z_zald (v := ((K 3) v2.toNatClampNeg)) C g2 4 rfl rfl rfl dX2_firstEnd_17 ?_
      refine z_if_eq (tgt := 53) C dX2_firstEnd_18 (by decide) (fun c3 => ?_) (fun c3 => ?_)
      · have hF := zif hF c3
        refine z_iinc (v := (v2 + 1)) (lv' := [(2, .int (v2 + 1)), (0, .ref (a1 0)), (1, .int v1)]) C dX2_firstEnd_53 2 rfl rfl (by decide) rfl ?_
        refine z_goto (tgt := 4) C dX2_firstEnd_56 (by decide) ?_
        exact z_sub C [1, 2, 0] rfl (ih v1 (v2 + 1) hF)
      · have hF := zelse hF c3
        refine z_aload_n C dX2_firstEnd_21 rfl 0 rfl ?_
        refine z_get (ref := "SecretBroker$Leased") (v := .ref (a1 2)) C hX2_firstEnd_X1 0 rfl rfl 1 (by decide) kX2_firstEnd_15 (fun _ h9 => h9) rfl dX2_firstEnd_22 ?_
        refine z_iload_n C dX2_firstEnd_25 rfl 2 rfl ?_
        obtain ⟨g4, hF⟩ := zix_some hF
        refine z_iald (v := ((K 1) v2.toNatClampNeg)) C g4 2 rfl rfl rfl dX2_firstEnd_26 ?_
        refine z_iconst (v := (-1)) C dX2_firstEnd_27 (by decide) ?_
        refine z_icmp_eq (tgt := 53) C dX2_firstEnd_28 (by decide) (fun c5 => ?_) (fun c5 => ?_)
        · have hF := zif hF c5
          refine z_iinc (v := (v2 + 1)) (lv' := [(2, .int (v2 + 1)), (0, .ref (a1 0)), (1, .int v1)]) C dX2_firstEnd_53 2 rfl rfl (by decide) rfl ?_
          refine z_goto (tgt := 4) C dX2_firstEnd_56 (by decide) ?_
          exact z_sub C [1, 2, 0] rfl (ih v1 (v2 + 1) hF)
        · have hF := zelse hF c5
          refine z_iload_n C dX2_firstEnd_31 rfl 1 rfl ?_
          refine z_iconst (v := (-1)) C dX2_firstEnd_32 (by decide) ?_
          refine z_icmp_eq (tgt := 46) C dX2_firstEnd_33 (by decide) (fun c6 => ?_) (fun c6 => ?_)
          · have hF := zif hF c6
            refine z_aload_n C dX2_firstEnd_46 rfl 0 rfl ?_
            refine z_get (ref := "SecretBroker$Leased") (v := .ref (a1 2)) C hX2_firstEnd_X1 0 rfl rfl 1 (by decide) kX2_firstEnd_15 (fun _ h9 => h9) rfl dX2_firstEnd_47 ?_
            refine z_iload_n C dX2_firstEnd_50 rfl 2 rfl ?_
            obtain ⟨g7, hF⟩ := zix_some hF
            refine z_iald (v := ((K 1) v2.toNatClampNeg)) C g7 2 rfl rfl rfl dX2_firstEnd_51 ?_
            refine z_istore_n (lv' := [(1, .int ((K 1) v2.toNatClampNeg)), (0, .ref (a1 0)), (2, .int v2)]) C dX2_firstEnd_52 rfl (by decide) rfl ?_
            refine z_iinc (v := (v2 + 1)) (lv' := [(2, .int (v2 + 1)), (1, .int ((K 1) v2.toNatClampNeg)), (0, .ref (a1 0))]) C dX2_firstEnd_53 2 rfl rfl (by decide) rfl ?_
            refine z_goto (tgt := 4) C dX2_firstEnd_56 (by decide) ?_
            exact z_sub C [2, 1, 0] rfl (ih ((K 1) v2.toNatClampNeg) (v2 + 1) hF)
          · have hF := zelse hF c6
            refine z_aload_n C dX2_firstEnd_36 rfl 0 rfl ?_
            refine z_get (ref := "SecretBroker$Leased") (v := .ref (a1 2)) C hX2_firstEnd_X1 0 rfl rfl 1 (by decide) kX2_firstEnd_15 (fun _ h9 => h9) rfl dX2_firstEnd_37 ?_
            refine z_iload_n C dX2_firstEnd_40 rfl 2 rfl ?_
            obtain ⟨g8, hF⟩ := zix_some hF
            refine z_iald (v := ((K 1) v2.toNatClampNeg)) C g8 2 rfl rfl rfl dX2_firstEnd_41 ?_
            refine z_iload_n C dX2_firstEnd_42 rfl 1 rfl ?_
            refine z_icmp_ge (tgt := 53) C dX2_firstEnd_43 (by decide) (fun c9 => ?_) (fun c9 => ?_)
            · have hF := zif hF c9
              refine z_iinc (v := (v2 + 1)) (lv' := [(2, .int (v2 + 1)), (0, .ref (a1 0)), (1, .int v1)]) C dX2_firstEnd_53 2 rfl rfl (by decide) rfl ?_
              refine z_goto (tgt := 4) C dX2_firstEnd_56 (by decide) ?_
              exact z_sub C [1, 2, 0] rfl (ih v1 (v2 + 1) hF)
            · have hF := zelse hF c9
              refine z_aload_n C dX2_firstEnd_46 rfl 0 rfl ?_
              refine z_get (ref := "SecretBroker$Leased") (v := .ref (a1 2)) C hX2_firstEnd_X1 0 rfl rfl 1 (by decide) kX2_firstEnd_15 (fun _ h9 => h9) rfl dX2_firstEnd_47 ?_
              refine z_iload_n C dX2_firstEnd_50 rfl 2 rfl ?_
              obtain ⟨g10, hF⟩ := zix_some hF
              refine z_iald (v := ((K 1) v2.toNatClampNeg)) C g10 2 rfl rfl rfl dX2_firstEnd_51 ?_
              refine z_istore_n (lv' := [(1, .int ((K 1) v2.toNatClampNeg)), (0, .ref (a1 0)), (2, .int v2)]) C dX2_firstEnd_52 rfl (by decide) rfl ?_
              refine z_iinc (v := (v2 + 1)) (lv' := [(2, .int (v2 + 1)), (1, .int ((K 1) v2.toNatClampNeg)), (0, .ref (a1 0))]) C dX2_firstEnd_53 2 rfl rfl (by decide) rfl ?_
              refine z_goto (tgt := 4) C dX2_firstEnd_56 (by decide) ?_
              exact z_sub C [2, 1, 0] rfl (ih ((K 1) v2.toNatClampNeg) (v2 + 1) hF)
set_option maxHeartbeats 4000000 in
set_option maxRecDepth 100000 in
theorem c_X2_firstEnd_1 (l : Launch) (D : va_G) (cI cJ cZ : ClassId) (a1 : Nat → Nat) (K : SS) (u : Int32) (hF : f_X2_firstEnd K = some u) : zM l yX2_firstEnd wsX2_firstEnd ({ frames := 0, cells := 0, slots := 0, locals := 0 }) D (zTy cI cJ cZ) [.ref (a1 0)] (zwX1 cI cJ cZ a1 K) (some (.int u)) (zwX1 cI cJ cZ a1 K) := by
  refine z_body (cc := cX2_firstEnd) (maxL := 3) (rty := (some .int)) (own := RX2) (lv := [(0, .ref (a1 0))]) (by decide +kernel) rfl rfl (Nat.le_of_ble_eq_true rfl) rfl (fun p e s m args below meth c A C => ?_)
  refine z_iconst (v := (-1)) C dX2_firstEnd_0 (by decide) ?_
  refine z_istore_n (lv' := [(1, .int (-1)), (0, .ref (a1 0))]) C dX2_firstEnd_1 rfl (by decide) rfl ?_
  refine z_iconst (v := 0) C dX2_firstEnd_2 (by decide) ?_
  refine z_istore_n (lv' := [(2, .int 0), (1, .int (-1)), (0, .ref (a1 0))]) C dX2_firstEnd_3 rfl (by decide) rfl ?_
  exact z_sub C [2, 1, 0] rfl (c_X2_firstEnd_1_j4 l D cI cJ cZ a1 K u C 600 (-1) 0 hF)
theorem kX3_count_21 : Cond.fieldLink RX3 21 "SecretBroker$Mounts" "count" "I" ∈ wsX3_count := by decide +kernel
theorem hX3_count_X3 : ∀ w ∈ wsX30, w ∈ wsX3_count := by decide +kernel
set_option maxHeartbeats 4000000 in
set_option maxRecDepth 100000 in
theorem c_X3_count (l : Launch) (D : va_G) (cI cJ cZ : ClassId) (a3 : Nat → Nat) (M : SS) (u : Int32) (hF : f_X3_count M = some u) : zM l yX3_count wsX3_count ({ frames := 0, cells := 0, slots := 0, locals := 0 }) D (zTy cI cJ cZ) [.ref (a3 0)] (zwX3 cI cJ cZ a3 M) (some (.int u)) (zwX3 cI cJ cZ a3 M) := by
  refine z_body (cc := cX3_count) (maxL := 1) (rty := (some .int)) (own := RX3) (lv := [(0, .ref (a3 0))]) (by decide +kernel) rfl rfl (Nat.le_of_ble_eq_true rfl) rfl (fun p e s m args below meth c A C => ?_)
  refine z_aload_n C dX3_count_0 rfl 0 rfl ?_
  refine z_get (ref := "SecretBroker$Mounts") (v := .int (M 3 0)) C hX3_count_X3 0 rfl rfl 3 (by decide) kX3_count_21 (fun _ h9 => h9) rfl dX3_count_1 ?_
  have hu := Option.some.inj hF
  subst hu
  exact z_iret C dX3_count_4 rfl rfl
theorem kX3_has_21 : Cond.fieldLink RX3 21 "SecretBroker$Mounts" "count" "I" ∈ wsX3_has := by decide +kernel
theorem hX3_has_X3 : ∀ w ∈ wsX30, w ∈ wsX3_has := by decide +kernel
set_option maxHeartbeats 4000000 in
set_option maxRecDepth 100000 in
theorem c_X3_has (l : Launch) (D : va_G) (cI cJ cZ : ClassId) (a3 : Nat → Nat) (M : SS) (x1 : Int32) (u : Int32) (hF : f_X3_has M x1 = some u) : zM l yX3_has wsX3_has ({ frames := 0, cells := 0, slots := 0, locals := 0 }) D (zTy cI cJ cZ) [.ref (a3 0), .int x1] (zwX3 cI cJ cZ a3 M) (some (.int u)) (zwX3 cI cJ cZ a3 M) := by
  refine z_body (cc := cX3_has) (maxL := 2) (rty := (some .boolean)) (own := RX3) (lv := [(0, .ref (a3 0)), (1, .int x1)]) (by decide +kernel) rfl rfl (Nat.le_of_ble_eq_true rfl) rfl (fun p e s m args below meth c A C => ?_)
  refine z_iload_n C dX3_has_0 rfl 1 rfl ?_
  refine z_if_lt (tgt := 16) C dX3_has_1 (by decide) (fun c1 => ?_) (fun c1 => ?_)
  · have hF := zif hF c1
    refine z_iconst (v := 0) C dX3_has_16 (by decide) ?_
    have hu := Option.some.inj hF
    subst hu
    exact z_iret C dX3_has_17 rfl z_b0
  · have hF := zelse hF c1
    refine z_iload_n C dX3_has_4 rfl 1 rfl ?_
    refine z_aload_n C dX3_has_5 rfl 0 rfl ?_
    refine z_get (ref := "SecretBroker$Mounts") (v := .int (M 3 0)) C hX3_has_X3 0 rfl rfl 3 (by decide) kX3_has_21 (fun _ h9 => h9) rfl dX3_has_6 ?_
    refine z_icmp_ge (tgt := 16) C dX3_has_9 (by decide) (fun c2 => ?_) (fun c2 => ?_)
    · have hF := zif hF c2
      refine z_iconst (v := 0) C dX3_has_16 (by decide) ?_
      have hu := Option.some.inj hF
      subst hu
      exact z_iret C dX3_has_17 rfl z_b0
    · have hF := zelse hF c2
      refine z_iconst (v := 1) C dX3_has_12 (by decide) ?_
      refine z_goto (tgt := 17) C dX3_has_13 (by decide) ?_
      have hu := Option.some.inj hF
      subst hu
      exact z_iret C dX3_has_17 rfl z_b1
theorem kX3_find_21 : Cond.fieldLink RX3 21 "SecretBroker$Mounts" "count" "I" ∈ wsX3_find := by decide +kernel
theorem kX3_find_9 : Cond.fieldLink RX3 9 "SecretBroker$Mounts" "paths" "[I" ∈ wsX3_find := by decide +kernel
theorem hX3_find_X3 : ∀ w ∈ wsX30, w ∈ wsX3_find := by decide +kernel
set_option maxHeartbeats 4000000 in
set_option maxRecDepth 100000 in
theorem c_X3_find_j2 (l : Launch) (D : va_G) (cI cJ cZ : ClassId) (a3 : Nat → Nat) (M : SS) (u : Int32) {p : Program} {e : Env} {s : State} {m : MethodId} {args : Array Value} {below : List Frame} {meth : Method} {c : Code} {A : Nat → Prop} (C : zC p s m args meth c cX3_find 3 (some .int) RX3 wsX3_find D (zTy cI cJ cZ) A s.heap) : ∀ (n : Nat) (v1 : Int32) (v2 : Int32), f_X3_find_2 M n v1 v2 = some u → zW p l e { frames := 0, cells := 0, slots := 0, locals := 0 } s m args below meth c 3 D A s.heap 0 0 (MQ below (zQ D (zTy cI cJ cZ) (some (.int u)) (zwX3 cI cJ cZ a3 M) A) args s 0 0 A) (zwX3 cI cJ cZ a3 M) [(0, .ref (a3 0)), (1, .int v1), (2, .int v2)] 2 [] := by
  intro n
  induction n with
  | zero => intro v1 v2 hF; exact absurd (show none = some u from hF) (fun q => nomatch q)
  | succ n ih =>
    intro v1 v2 hF
    refine z_iload_n C dX3_find_2 rfl 2 rfl ?_
    refine z_aload_n C dX3_find_3 rfl 0 rfl ?_
    refine z_get (ref := "SecretBroker$Mounts") (v := .int (M 3 0)) C hX3_find_X3 0 rfl rfl 3 (by decide) kX3_find_21 (fun _ h9 => h9) rfl dX3_find_4 ?_
    refine z_icmp_ge (tgt := 28) C dX3_find_7 (by decide) (fun c1 => ?_) (fun c1 => ?_)
    · have hF := zif hF c1
      refine z_iconst (v := (-1)) C dX3_find_28 (by decide) ?_
      have hu := Option.some.inj hF
      subst hu
      exact z_iret C dX3_find_29 rfl rfl
    · have hF := zelse hF c1
      refine z_aload_n C dX3_find_10 rfl 0 rfl ?_
      refine z_get (ref := "SecretBroker$Mounts") (v := .ref (a3 1)) C hX3_find_X3 0 rfl rfl 0 (by decide) kX3_find_9 (fun _ h9 => h9) rfl dX3_find_11 ?_
      refine z_iload_n C dX3_find_14 rfl 2 rfl ?_
      obtain ⟨g2, hF⟩ := zix_some hF
      refine z_iald (v := ((M 0) v2.toNatClampNeg)) C g2 1 rfl rfl rfl dX3_find_15 ?_
      refine z_iload_n C dX3_find_16 rfl 1 rfl ?_
      refine z_icmp_ne (tgt := 22) C dX3_find_17 (by decide) (fun c3 => ?_) (fun c3 => ?_)
      · have hF := zelse hF c3
        refine z_iinc (v := (v2 + 1)) (lv' := [(2, .int (v2 + 1)), (0, .ref (a3 0)), (1, .int v1)]) C dX3_find_22 2 rfl rfl (by decide) rfl ?_
        refine z_goto (tgt := 2) C dX3_find_25 (by decide) ?_
        exact z_sub C [1, 2, 0] rfl (ih v1 (v2 + 1) hF)
      · have hF := zif hF c3
        refine z_iload_n C dX3_find_20 rfl 2 rfl ?_
        have hu := Option.some.inj hF
        subst hu
        exact z_iret C dX3_find_21 rfl rfl
set_option maxHeartbeats 4000000 in
set_option maxRecDepth 100000 in
theorem c_X3_find (l : Launch) (D : va_G) (cI cJ cZ : ClassId) (a3 : Nat → Nat) (M : SS) (x1 : Int32) (u : Int32) (hF : f_X3_find M x1 = some u) : zM l yX3_find wsX3_find ({ frames := 0, cells := 0, slots := 0, locals := 0 }) D (zTy cI cJ cZ) [.ref (a3 0), .int x1] (zwX3 cI cJ cZ a3 M) (some (.int u)) (zwX3 cI cJ cZ a3 M) := by
  refine z_body (cc := cX3_find) (maxL := 3) (rty := (some .int)) (own := RX3) (lv := [(0, .ref (a3 0)), (1, .int x1)]) (by decide +kernel) rfl rfl (Nat.le_of_ble_eq_true rfl) rfl (fun p e s m args below meth c A C => ?_)
  refine z_iconst (v := 0) C dX3_find_0 (by decide) ?_
  refine z_istore_n (lv' := [(2, .int 0), (0, .ref (a3 0)), (1, .int x1)]) C dX3_find_1 rfl (by decide) rfl ?_
  exact z_sub C [1, 2, 0] rfl (c_X3_find_j2 l D cI cJ cZ a3 M u C 600 x1 0 hF)
theorem kX3_put_9 : Cond.fieldLink RX3 9 "SecretBroker$Mounts" "paths" "[I" ∈ wsX3_put := by decide +kernel
theorem kX3_put_15 : Cond.fieldLink RX3 15 "SecretBroker$Mounts" "minutes" "[I" ∈ wsX3_put := by decide +kernel
theorem kX3_put_18 : Cond.fieldLink RX3 18 "SecretBroker$Mounts" "bounds" "[I" ∈ wsX3_put := by decide +kernel
theorem kX3_put_21 : Cond.fieldLink RX3 21 "SecretBroker$Mounts" "count" "I" ∈ wsX3_put := by decide +kernel
theorem hX3_put_X3 : ∀ w ∈ wsX30, w ∈ wsX3_put := by decide +kernel
set_option maxHeartbeats 4000000 in
set_option maxRecDepth 100000 in
theorem c_X3_put_j38 (l : Launch) (D : va_G) (cI cJ cZ : ClassId) (a3 : Nat → Nat) (M : SS) (u : SS) {p : Program} {e : Env} {s : State} {m : MethodId} {args : Array Value} {below : List Frame} {meth : Method} {c : Code} {A : Nat → Prop} (C : zC p s m args meth c cX3_put 5 none RX3 wsX3_put D (zTy cI cJ cZ) A s.heap) : ∀ (Mc : SS) (v1 : Int32) (v2 : Int32) (v3 : Int32) (v4 : Int32), f_X3_put_38 Mc v1 v2 v3 v4 = some u → zW p l e { frames := 1, cells := 0, slots := 0, locals := 22 } s m args below meth c 5 D A s.heap 0 0 (MQ below (zQ D (zTy cI cJ cZ) none (zwX3 cI cJ cZ a3 u) A) args s 0 0 A) (zwX3 cI cJ cZ a3 Mc) [(0, .ref (a3 0)), (1, .int v1), (2, .int v2), (3, .int v3), (4, .int v4)] 38 [] := by
  intro Mc v1 v2 v3 v4 hF
  refine z_iload C dX3_put_38 4 rfl ?_
  refine z_iconst (v := (-1)) C dX3_put_40 (by decide) ?_
  refine z_icmp_eq (tgt := 68) C dX3_put_41 (by decide) (fun c3 => ?_) (fun c3 => ?_)
  · have hF := zif hF c3
    have hu := Option.some.inj hF
    subst hu
    exact z_vret C dX3_put_68 rfl
  · have hF := zelse hF c3
    refine z_aload_n C dX3_put_44 rfl 0 rfl ?_
    refine z_get (ref := "SecretBroker$Mounts") (v := .ref (a3 1)) C hX3_put_X3 0 rfl rfl 0 (by decide) kX3_put_9 (fun _ h9 => h9) rfl dX3_put_45 ?_
    refine z_iload C dX3_put_48 4 rfl ?_
    refine z_iload_n C dX3_put_50 rfl 1 rfl ?_
    obtain ⟨g4, hF⟩ := zix_some hF
    refine z_iast (ws' := (zwX3 cI cJ cZ a3 (za Mc 0 v4 v1))) C g4 1 rfl rfl dX3_put_51 (za_row Mc 0 v4 v1) (zr_X3_0 cI cJ cZ a3 Mc v4 v1) ?_
    refine z_aload_n C dX3_put_52 rfl 0 rfl ?_
    refine z_get (ref := "SecretBroker$Mounts") (v := .ref (a3 2)) C hX3_put_X3 0 rfl rfl 1 (by decide) kX3_put_15 (fun _ h9 => h9) rfl dX3_put_53 ?_
    refine z_iload C dX3_put_56 4 rfl ?_
    refine z_iload_n C dX3_put_58 rfl 2 rfl ?_
    obtain ⟨g5, hF⟩ := zix_some hF
    refine z_iast (ws' := (zwX3 cI cJ cZ a3 (za (za Mc 0 v4 v1) 1 v4 v2))) C g5 2 rfl rfl dX3_put_59 (za_row (za Mc 0 v4 v1) 1 v4 v2) (zr_X3_1 cI cJ cZ a3 (za Mc 0 v4 v1) v4 v2) ?_
    refine z_aload_n C dX3_put_60 rfl 0 rfl ?_
    refine z_get (ref := "SecretBroker$Mounts") (v := .ref (a3 3)) C hX3_put_X3 0 rfl rfl 2 (by decide) kX3_put_18 (fun _ h9 => h9) rfl dX3_put_61 ?_
    refine z_iload C dX3_put_64 4 rfl ?_
    refine z_iload_n C dX3_put_66 rfl 3 rfl ?_
    obtain ⟨g6, hF⟩ := zix_some hF
    refine z_iast (ws' := (zwX3 cI cJ cZ a3 (za (za (za Mc 0 v4 v1) 1 v4 v2) 2 v4 v3))) C g6 3 rfl rfl dX3_put_67 (za_row (za (za Mc 0 v4 v1) 1 v4 v2) 2 v4 v3) (zr_X3_2 cI cJ cZ a3 (za (za Mc 0 v4 v1) 1 v4 v2) v4 v3) ?_
    have hu := Option.some.inj hF
    subst hu
    exact z_vret C dX3_put_68 rfl
set_option maxHeartbeats 4000000 in
set_option maxRecDepth 100000 in
theorem c_X3_put (l : Launch) (D : va_G) (cI cJ cZ : ClassId) (a3 : Nat → Nat) (M : SS) (x1 : Int32) (x2 : Int32) (x3 : Int32) (u : SS) (hF : f_X3_put M x1 x2 x3 = some u) : zM l yX3_put wsX3_put ({ frames := 1, cells := 0, slots := 0, locals := 22 }) D (zTy cI cJ cZ) [.ref (a3 0), .int x1, .int x2, .int x3] (zwX3 cI cJ cZ a3 M) none (zwX3 cI cJ cZ a3 u) := by
  refine z_body (cc := cX3_put) (maxL := 5) (rty := none) (own := RX3) (lv := [(0, .ref (a3 0)), (1, .int x1), (2, .int x2), (3, .int x3)]) (by decide +kernel) rfl rfl (Nat.le_of_ble_eq_true rfl) rfl (fun p e s m args below meth c A C => ?_)
  refine z_aload_n C dX3_put_0 rfl 0 rfl ?_
  refine z_iload_n C dX3_put_1 rfl 1 rfl ?_
  obtain ⟨r1, er1, hF⟩ := zbd hF
  refine z_callV (n := 1) (As := [.int x1]) (ws' := (zwX3 cI cJ cZ a3 M)) C (c_X3_find l D cI cJ cZ a3 M x1 r1 er1) gX3_put_X3_find rfl rfl rfl (by decide +kernel) ⟨Nat.le_of_ble_eq_true rfl, Nat.le_of_ble_eq_true rfl⟩ ⟨Nat.zero_le _, Nat.zero_le _⟩ 0 rfl rfl [] [] rfl rfl rfl rfl (Nat.le_of_ble_eq_true rfl) dX3_put_2 ?_
  refine z_istore (lv' := [(4, .int r1), (0, .ref (a3 0)), (1, .int x1), (2, .int x2), (3, .int x3)]) C dX3_put_5 (by decide) rfl ?_
  refine z_iload C dX3_put_7 0 rfl ?_
  refine z_iconst (v := (-1)) C dX3_put_9 (by decide) ?_
  refine z_icmp_ne (tgt := 38) C dX3_put_10 (by decide) (fun c2 => ?_) (fun c2 => ?_)
  · have hF := zelse hF c2
    exact z_sub C [1, 2, 3, 4, 0] rfl (c_X3_put_j38 l D cI cJ cZ a3 M u C M x1 x2 x3 r1 hF)
  · have hF := zif hF c2
    refine z_aload_n C dX3_put_13 rfl 1 rfl ?_
    refine z_get (ref := "SecretBroker$Mounts") (v := .int (M 3 0)) C hX3_put_X3 0 rfl rfl 3 (by decide) kX3_put_21 (fun _ h9 => h9) rfl dX3_put_14 ?_
    refine z_bipush (v := 6) C dX3_put_17 (by decide) ?_
    refine z_icmp_ge (tgt := 38) C dX3_put_19 (by decide) (fun c7 => ?_) (fun c7 => ?_)
    · have hF := zif hF c7
      exact z_sub C [1, 2, 3, 4, 0] rfl (c_X3_put_j38 l D cI cJ cZ a3 M u C M x1 x2 x3 r1 hF)
    · have hF := zelse hF c7
      refine z_aload_n C dX3_put_22 rfl 1 rfl ?_
      refine z_get (ref := "SecretBroker$Mounts") (v := .int (M 3 0)) C hX3_put_X3 0 rfl rfl 3 (by decide) kX3_put_21 (fun _ h9 => h9) rfl dX3_put_23 ?_
      refine z_istore (lv' := [(4, .int (M 3 0)), (0, .ref (a3 0)), (1, .int x1), (2, .int x2), (3, .int x3)]) C dX3_put_26 (by decide) rfl ?_
      refine z_aload_n C dX3_put_28 rfl 1 rfl ?_
      refine z_dup C dX3_put_29 rfl ?_
      refine z_get (ref := "SecretBroker$Mounts") (v := .int (M 3 0)) C hX3_put_X3 0 rfl rfl 3 (by decide) kX3_put_21 (fun _ h9 => h9) rfl dX3_put_30 ?_
      refine z_iconst (v := 1) C dX3_put_33 (by decide) ?_
      refine z_iadd C dX3_put_34 ?_
      refine z_put (ws' := (zwX3 cI cJ cZ a3 (zs M 3 ((M 3 0) + 1)))) (ref := "SecretBroker$Mounts") (ty := .int) C hX3_put_X3 tyX3 tyX3_ok nmX3 0 rfl rfl 3 (by decide) kX3_put_21 (fun _ h9 => h9) rfl (by decide +kernel) rfl rfl (Nat.le_of_ble_eq_true rfl) dX3_put_35 (zs_val M 3 ((M 3 0) + 1)) (zf_X3_3 cI cJ cZ a3 M ((M 3 0) + 1)) ?_
      exact z_sub C [1, 2, 3, 4, 0] rfl (c_X3_put_j38 l D cI cJ cZ a3 M u C (zs M 3 ((M 3 0) + 1)) x1 x2 x3 (M 3 0) hF)
theorem kX3_nearest_21 : Cond.fieldLink RX3 21 "SecretBroker$Mounts" "count" "I" ∈ wsX3_nearest := by decide +kernel
theorem kX3_nearest_9 : Cond.fieldLink RX3 9 "SecretBroker$Mounts" "paths" "[I" ∈ wsX3_nearest := by decide +kernel
theorem hX3_nearest_X3 : ∀ w ∈ wsX30, w ∈ wsX3_nearest := by decide +kernel
set_option maxHeartbeats 4000000 in
set_option maxRecDepth 100000 in
theorem c_X3_nearest_j4 (l : Launch) (D : va_G) (cI cJ cZ : ClassId) (a3 : Nat → Nat) (M : SS) (u : Int32) {p : Program} {e : Env} {s : State} {m : MethodId} {args : Array Value} {below : List Frame} {meth : Method} {c : Code} {A : Nat → Prop} (C : zC p s m args meth c cX3_nearest 4 (some .int) RX3 wsX3_nearest D (zTy cI cJ cZ) A s.heap) : ∀ (n : Nat) (v1 : Int32) (v2 : Int32) (v3 : Int32), f_X3_nearest_4 M n v1 v2 v3 = some u → zW p l e { frames := 2, cells := 0, slots := 0, locals := 45 } s m args below meth c 4 D A s.heap 0 0 (MQ below (zQ D (zTy cI cJ cZ) (some (.int u)) (zwX3 cI cJ cZ a3 M) A) args s 0 0 A) (zwX3 cI cJ cZ a3 M) [(0, .ref (a3 0)), (1, .int v1), (2, .int v2), (3, .int v3)] 4 [] := by
  intro n
  induction n with
  | zero => intro v1 v2 v3 hF; exact absurd (show none = some u from hF) (fun q => nomatch q)
  | succ n ih =>
    intro v1 v2 v3 hF
    refine z_iload_n C dX3_nearest_4 rfl 3 rfl ?_
    refine z_aload_n C dX3_nearest_5 rfl 0 rfl ?_
    refine z_get (ref := "SecretBroker$Mounts") (v := .int (M 3 0)) C hX3_nearest_X3 0 rfl rfl 3 (by decide) kX3_nearest_21 (fun _ h9 => h9) rfl dX3_nearest_6 ?_
    refine z_icmp_ge (tgt := 53) C dX3_nearest_9 (by decide) (fun c1 => ?_) (fun c1 => ?_)
    · have hF := zif hF c1
      refine z_iload_n C dX3_nearest_53 rfl 2 rfl ?_
      have hu := Option.some.inj hF
      subst hu
      exact z_iret C dX3_nearest_54 rfl rfl
    · have hF := zelse hF c1
      refine z_iload_n C dX3_nearest_12 rfl 1 rfl ?_
      refine z_aload_n C dX3_nearest_13 rfl 0 rfl ?_
      refine z_get (ref := "SecretBroker$Mounts") (v := .ref (a3 1)) C hX3_nearest_X3 0 rfl rfl 0 (by decide) kX3_nearest_9 (fun _ h9 => h9) rfl dX3_nearest_14 ?_
      refine z_iload_n C dX3_nearest_17 rfl 3 rfl ?_
      obtain ⟨g2, hF⟩ := zix_some hF
      refine z_iald (v := ((M 0) v3.toNatClampNeg)) C g2 1 rfl rfl rfl dX3_nearest_18 ?_
      obtain ⟨r3, er3, hF⟩ := zbd hF
      refine z_callS (n := 2) (As := [.int v1, .int ((M 0) v3.toNatClampNeg)]) C (c_X4_isBelow l D cI cJ cZ v1 ((M 0) v3.toNatClampNeg) r3 er3) gX3_nearest_X4_isBelow rfl rfl rfl (by decide +kernel) ⟨Nat.le_of_ble_eq_true rfl, Nat.le_of_ble_eq_true rfl⟩ ⟨Nat.zero_le _, Nat.zero_le _⟩ rfl rfl (Nat.le_of_ble_eq_true rfl) dX3_nearest_19 ?_
      refine z_if_eq (tgt := 47) C dX3_nearest_22 (by decide) (fun c4 => ?_) (fun c4 => ?_)
      · have hF := zif hF c4
        refine z_iinc (v := (v3 + 1)) (lv' := [(3, .int (v3 + 1)), (0, .ref (a3 0)), (1, .int v1), (2, .int v2)]) C dX3_nearest_47 3 rfl rfl (by decide) rfl ?_
        refine z_goto (tgt := 4) C dX3_nearest_50 (by decide) ?_
        exact z_sub C [1, 2, 3, 0] rfl (ih v1 v2 (v3 + 1) hF)
      · have hF := zelse hF c4
        refine z_iload_n C dX3_nearest_25 rfl 2 rfl ?_
        refine z_iconst (v := (-1)) C dX3_nearest_26 (by decide) ?_
        refine z_icmp_eq (tgt := 45) C dX3_nearest_27 (by decide) (fun c5 => ?_) (fun c5 => ?_)
        · have hF := zif hF c5
          refine z_iload_n C dX3_nearest_45 rfl 3 rfl ?_
          refine z_istore_n (lv' := [(2, .int v3), (0, .ref (a3 0)), (1, .int v1), (3, .int v3)]) C dX3_nearest_46 rfl (by decide) rfl ?_
          refine z_iinc (v := (v3 + 1)) (lv' := [(3, .int (v3 + 1)), (2, .int v3), (0, .ref (a3 0)), (1, .int v1)]) C dX3_nearest_47 3 rfl rfl (by decide) rfl ?_
          refine z_goto (tgt := 4) C dX3_nearest_50 (by decide) ?_
          exact z_sub C [2, 3, 1, 0] rfl (ih v1 v3 (v3 + 1) hF)
        · have hF := zelse hF c5
          refine z_aload_n C dX3_nearest_30 rfl 0 rfl ?_
          refine z_get (ref := "SecretBroker$Mounts") (v := .ref (a3 1)) C hX3_nearest_X3 0 rfl rfl 0 (by decide) kX3_nearest_9 (fun _ h9 => h9) rfl dX3_nearest_31 ?_
          refine z_iload_n C dX3_nearest_34 rfl 3 rfl ?_
          obtain ⟨g6, hF⟩ := zix_some hF
          refine z_iald (v := ((M 0) v3.toNatClampNeg)) C g6 1 rfl rfl rfl dX3_nearest_35 ?_
          refine z_aload_n C dX3_nearest_36 rfl 0 rfl ?_
          refine z_get (ref := "SecretBroker$Mounts") (v := .ref (a3 1)) C hX3_nearest_X3 0 rfl rfl 0 (by decide) kX3_nearest_9 (fun _ h9 => h9) rfl dX3_nearest_37 ?_
          refine z_iload_n C dX3_nearest_40 rfl 2 rfl ?_
          obtain ⟨g7, hF⟩ := zix_some hF
          refine z_iald (v := ((M 0) v2.toNatClampNeg)) C g7 1 rfl rfl rfl dX3_nearest_41 ?_
          refine z_icmp_le (tgt := 47) C dX3_nearest_42 (by decide) (fun c8 => ?_) (fun c8 => ?_)
          · have hF := zif hF c8
            refine z_iinc (v := (v3 + 1)) (lv' := [(3, .int (v3 + 1)), (0, .ref (a3 0)), (1, .int v1), (2, .int v2)]) C dX3_nearest_47 3 rfl rfl (by decide) rfl ?_
            refine z_goto (tgt := 4) C dX3_nearest_50 (by decide) ?_
            exact z_sub C [1, 2, 3, 0] rfl (ih v1 v2 (v3 + 1) hF)
          · have hF := zelse hF c8
            refine z_iload_n C dX3_nearest_45 rfl 3 rfl ?_
            refine z_istore_n (lv' := [(2, .int v3), (0, .ref (a3 0)), (1, .int v1), (3, .int v3)]) C dX3_nearest_46 rfl (by decide) rfl ?_
            refine z_iinc (v := (v3 + 1)) (lv' := [(3, .int (v3 + 1)), (2, .int v3), (0, .ref (a3 0)), (1, .int v1)]) C dX3_nearest_47 3 rfl rfl (by decide) rfl ?_
            refine z_goto (tgt := 4) C dX3_nearest_50 (by decide) ?_
            exact z_sub C [2, 3, 1, 0] rfl (ih v1 v3 (v3 + 1) hF)
set_option maxHeartbeats 4000000 in
set_option maxRecDepth 100000 in
theorem c_X3_nearest (l : Launch) (D : va_G) (cI cJ cZ : ClassId) (a3 : Nat → Nat) (M : SS) (x1 : Int32) (u : Int32) (hF : f_X3_nearest M x1 = some u) : zM l yX3_nearest wsX3_nearest ({ frames := 2, cells := 0, slots := 0, locals := 45 }) D (zTy cI cJ cZ) [.ref (a3 0), .int x1] (zwX3 cI cJ cZ a3 M) (some (.int u)) (zwX3 cI cJ cZ a3 M) := by
  refine z_body (cc := cX3_nearest) (maxL := 4) (rty := (some .int)) (own := RX3) (lv := [(0, .ref (a3 0)), (1, .int x1)]) (by decide +kernel) rfl rfl (Nat.le_of_ble_eq_true rfl) rfl (fun p e s m args below meth c A C => ?_)
  refine z_iconst (v := (-1)) C dX3_nearest_0 (by decide) ?_
  refine z_istore_n (lv' := [(2, .int (-1)), (0, .ref (a3 0)), (1, .int x1)]) C dX3_nearest_1 rfl (by decide) rfl ?_
  refine z_iconst (v := 0) C dX3_nearest_2 (by decide) ?_
  refine z_istore_n (lv' := [(3, .int 0), (2, .int (-1)), (0, .ref (a3 0)), (1, .int x1)]) C dX3_nearest_3 rfl (by decide) rfl ?_
  exact z_sub C [2, 3, 1, 0] rfl (c_X3_nearest_j4 l D cI cJ cZ a3 M u C 600 x1 (-1) 0 hF)
theorem kX3_minutesAt_15 : Cond.fieldLink RX3 15 "SecretBroker$Mounts" "minutes" "[I" ∈ wsX3_minutesAt := by decide +kernel
theorem hX3_minutesAt_X3 : ∀ w ∈ wsX30, w ∈ wsX3_minutesAt := by decide +kernel
set_option maxHeartbeats 4000000 in
set_option maxRecDepth 100000 in
theorem c_X3_minutesAt (l : Launch) (D : va_G) (cI cJ cZ : ClassId) (a3 : Nat → Nat) (M : SS) (x1 : Int32) (u : Int32) (hF : f_X3_minutesAt M x1 = some u) : zM l yX3_minutesAt wsX3_minutesAt ({ frames := 1, cells := 0, slots := 0, locals := 21 }) D (zTy cI cJ cZ) [.ref (a3 0), .int x1] (zwX3 cI cJ cZ a3 M) (some (.int u)) (zwX3 cI cJ cZ a3 M) := by
  refine z_body (cc := cX3_minutesAt) (maxL := 2) (rty := (some .int)) (own := RX3) (lv := [(0, .ref (a3 0)), (1, .int x1)]) (by decide +kernel) rfl rfl (Nat.le_of_ble_eq_true rfl) rfl (fun p e s m args below meth c A C => ?_)
  refine z_aload_n C dX3_minutesAt_0 rfl 0 rfl ?_
  refine z_iload_n C dX3_minutesAt_1 rfl 1 rfl ?_
  obtain ⟨r1, er1, hF⟩ := zbd hF
  refine z_callV (n := 1) (As := [.int x1]) (ws' := (zwX3 cI cJ cZ a3 M)) C (c_X3_has l D cI cJ cZ a3 M x1 r1 er1) gX3_minutesAt_X3_has rfl rfl rfl (by decide +kernel) ⟨Nat.le_of_ble_eq_true rfl, Nat.le_of_ble_eq_true rfl⟩ ⟨Nat.zero_le _, Nat.zero_le _⟩ 0 rfl rfl [] [] rfl rfl rfl rfl (Nat.le_of_ble_eq_true rfl) dX3_minutesAt_2 ?_
  refine z_if_eq (tgt := 17) C dX3_minutesAt_5 (by decide) (fun c2 => ?_) (fun c2 => ?_)
  · have hF := zif hF c2
    refine z_iconst (v := 0) C dX3_minutesAt_17 (by decide) ?_
    have hu := Option.some.inj hF
    subst hu
    exact z_iret C dX3_minutesAt_18 rfl rfl
  · have hF := zelse hF c2
    refine z_aload_n C dX3_minutesAt_8 rfl 0 rfl ?_
    refine z_get (ref := "SecretBroker$Mounts") (v := .ref (a3 2)) C hX3_minutesAt_X3 0 rfl rfl 1 (by decide) kX3_minutesAt_15 (fun _ h9 => h9) rfl dX3_minutesAt_9 ?_
    refine z_iload_n C dX3_minutesAt_12 rfl 1 rfl ?_
    obtain ⟨g3, hF⟩ := zix_some hF
    refine z_iald (v := ((M 1) x1.toNatClampNeg)) C g3 2 rfl rfl rfl dX3_minutesAt_13 ?_
    refine z_goto (tgt := 18) C dX3_minutesAt_14 (by decide) ?_
    have hu := Option.some.inj hF
    subst hu
    exact z_iret C dX3_minutesAt_18 rfl rfl
theorem kX3_boundAt_18 : Cond.fieldLink RX3 18 "SecretBroker$Mounts" "bounds" "[I" ∈ wsX3_boundAt := by decide +kernel
theorem hX3_boundAt_X3 : ∀ w ∈ wsX30, w ∈ wsX3_boundAt := by decide +kernel
set_option maxHeartbeats 4000000 in
set_option maxRecDepth 100000 in
theorem c_X3_boundAt (l : Launch) (D : va_G) (cI cJ cZ : ClassId) (a3 : Nat → Nat) (M : SS) (x1 : Int32) (u : Int32) (hF : f_X3_boundAt M x1 = some u) : zM l yX3_boundAt wsX3_boundAt ({ frames := 1, cells := 0, slots := 0, locals := 21 }) D (zTy cI cJ cZ) [.ref (a3 0), .int x1] (zwX3 cI cJ cZ a3 M) (some (.int u)) (zwX3 cI cJ cZ a3 M) := by
  refine z_body (cc := cX3_boundAt) (maxL := 2) (rty := (some .int)) (own := RX3) (lv := [(0, .ref (a3 0)), (1, .int x1)]) (by decide +kernel) rfl rfl (Nat.le_of_ble_eq_true rfl) rfl (fun p e s m args below meth c A C => ?_)
  refine z_aload_n C dX3_boundAt_0 rfl 0 rfl ?_
  refine z_iload_n C dX3_boundAt_1 rfl 1 rfl ?_
  obtain ⟨r1, er1, hF⟩ := zbd hF
  refine z_callV (n := 1) (As := [.int x1]) (ws' := (zwX3 cI cJ cZ a3 M)) C (c_X3_has l D cI cJ cZ a3 M x1 r1 er1) gX3_boundAt_X3_has rfl rfl rfl (by decide +kernel) ⟨Nat.le_of_ble_eq_true rfl, Nat.le_of_ble_eq_true rfl⟩ ⟨Nat.zero_le _, Nat.zero_le _⟩ 0 rfl rfl [] [] rfl rfl rfl rfl (Nat.le_of_ble_eq_true rfl) dX3_boundAt_2 ?_
  refine z_if_eq (tgt := 17) C dX3_boundAt_5 (by decide) (fun c2 => ?_) (fun c2 => ?_)
  · have hF := zif hF c2
    refine z_iconst (v := 0) C dX3_boundAt_17 (by decide) ?_
    have hu := Option.some.inj hF
    subst hu
    exact z_iret C dX3_boundAt_18 rfl rfl
  · have hF := zelse hF c2
    refine z_aload_n C dX3_boundAt_8 rfl 0 rfl ?_
    refine z_get (ref := "SecretBroker$Mounts") (v := .ref (a3 3)) C hX3_boundAt_X3 0 rfl rfl 2 (by decide) kX3_boundAt_18 (fun _ h9 => h9) rfl dX3_boundAt_9 ?_
    refine z_iload_n C dX3_boundAt_12 rfl 1 rfl ?_
    obtain ⟨g3, hF⟩ := zix_some hF
    refine z_iald (v := ((M 2) x1.toNatClampNeg)) C g3 3 rfl rfl rfl dX3_boundAt_13 ?_
    refine z_goto (tgt := 18) C dX3_boundAt_14 (by decide) ?_
    have hu := Option.some.inj hF
    subst hu
    exact z_iret C dX3_boundAt_18 rfl rfl
theorem kX4_hasDigits_15 : Cond.constant RX4 15 (999999) ∈ wsX4_hasDigits := by decide +kernel
set_option maxHeartbeats 4000000 in
set_option maxRecDepth 100000 in
theorem c_X4_hasDigits_j17 (l : Launch) (D : va_G) (cI cJ cZ : ClassId) (u : Int32) {p : Program} {e : Env} {s : State} {m : MethodId} {args : Array Value} {below : List Frame} {meth : Method} {c : Code} {A : Nat → Prop} (C : zC p s m args meth c cX4_hasDigits 5 (some .boolean) RX4 wsX4_hasDigits D (zTy cI cJ cZ) A s.heap) : ∀ (n : Nat) (v1 : Int32) (v2 : Int32) (v3 : Int32), f_X4_hasDigits_17 n v1 v2 v3 = some u → zW p l e { frames := 0, cells := 0, slots := 0, locals := 0 } s m args below meth c 5 D A s.heap 0 0 (MQ below (zQ D (zTy cI cJ cZ) (some (.int u)) [] A) args s 0 0 A) [] [(1, .int v1), (2, .int v2), (3, .int v3)] 17 [] := by
  intro n
  induction n with
  | zero => intro v1 v2 v3 hF; exact absurd (show none = some u from hF) (fun q => nomatch q)
  | succ n ih =>
    intro v1 v2 v3 hF
    refine z_iload_n C dX4_hasDigits_17 rfl 2 rfl ?_
    refine z_bipush (v := 6) C dX4_hasDigits_18 (by decide) ?_
    refine z_icmp_ge (tgt := 58) C dX4_hasDigits_20 (by decide) (fun c3 => ?_) (fun c3 => ?_)
    · have hF := zif hF c3
      refine z_iconst (v := 1) C dX4_hasDigits_58 (by decide) ?_
      have hu := Option.some.inj hF
      subst hu
      exact z_iret C dX4_hasDigits_59 rfl z_b1
    · have hF := zelse hF c3
      refine z_iload_n C dX4_hasDigits_23 rfl 1 rfl ?_
      refine z_if_le (tgt := 58) C dX4_hasDigits_24 (by decide) (fun c4 => ?_) (fun c4 => ?_)
      · have hF := zif hF c4
        refine z_iconst (v := 1) C dX4_hasDigits_58 (by decide) ?_
        have hu := Option.some.inj hF
        subst hu
        exact z_iret C dX4_hasDigits_59 rfl z_b1
      · have hF := zelse hF c4
        refine z_iload_n C dX4_hasDigits_27 rfl 1 rfl ?_
        refine z_bipush (v := 10) C dX4_hasDigits_28 (by decide) ?_
        refine z_irem C dX4_hasDigits_30 (by decide) ?_
        refine z_istore (lv' := [(4, .int (v2 - v2 / 10 * 10)), (1, .int v1), (2, .int v2), (3, .int v3)]) C dX4_hasDigits_31 (by decide) rfl ?_
        refine z_iload C dX4_hasDigits_33 0 rfl ?_
        refine z_iconst (v := 1) C dX4_hasDigits_35 (by decide) ?_
        refine z_icmp_lt (tgt := 45) C dX4_hasDigits_36 (by decide) (fun c5 => ?_) (fun c5 => ?_)
        · have hF := zif hF c5
          refine z_iconst (v := 0) C dX4_hasDigits_45 (by decide) ?_
          have hu := Option.some.inj hF
          subst hu
          exact z_iret C dX4_hasDigits_46 rfl z_b0
        · have hF := zelse hF c5
          refine z_iload C dX4_hasDigits_39 0 rfl ?_
          refine z_iload_n C dX4_hasDigits_41 rfl 1 rfl ?_
          refine z_icmp_le (tgt := 47) C dX4_hasDigits_42 (by decide) (fun c6 => ?_) (fun c6 => ?_)
          · have hF := zif hF c6
            refine z_iload_n C dX4_hasDigits_47 rfl 2 rfl ?_
            refine z_bipush (v := 10) C dX4_hasDigits_48 (by decide) ?_
            refine z_idiv C dX4_hasDigits_50 (by decide) ?_
            refine z_istore_n (lv' := [(2, .int (v2 / 10)), (4, .int (v2 - v2 / 10 * 10)), (1, .int v1), (3, .int v3)]) C dX4_hasDigits_51 rfl (by decide) rfl ?_
            refine z_iinc (v := (v3 + 1)) (lv' := [(3, .int (v3 + 1)), (2, .int (v2 / 10)), (4, .int (v2 - v2 / 10 * 10)), (1, .int v1)]) C dX4_hasDigits_52 3 rfl rfl (by decide) rfl ?_
            refine z_goto (tgt := 17) C dX4_hasDigits_55 (by decide) ?_
            exact z_sub C [3, 1, 0] rfl (ih v1 (v2 / 10) (v3 + 1) hF)
          · have hF := zelse hF c6
            refine z_iconst (v := 0) C dX4_hasDigits_45 (by decide) ?_
            have hu := Option.some.inj hF
            subst hu
            exact z_iret C dX4_hasDigits_46 rfl z_b0
set_option maxHeartbeats 4000000 in
set_option maxRecDepth 100000 in
theorem c_X4_hasDigits (l : Launch) (D : va_G) (cI cJ cZ : ClassId) (x1 : Int32) (x2 : Int32) (u : Int32) (hF : f_X4_hasDigits x1 x2 = some u) : zM l yX4_hasDigits wsX4_hasDigits ({ frames := 0, cells := 0, slots := 0, locals := 0 }) D (zTy cI cJ cZ) [.int x1, .int x2] [] (some (.int u)) [] := by
  refine z_body (cc := cX4_hasDigits) (maxL := 5) (rty := (some .boolean)) (own := RX4) (lv := [(0, .int x1), (1, .int x2)]) (by decide +kernel) rfl rfl (Nat.le_of_ble_eq_true rfl) rfl (fun p e s m args below meth c A C => ?_)
  refine z_iload_n C dX4_hasDigits_0 rfl 0 rfl ?_
  refine z_iconst (v := 1) C dX4_hasDigits_1 (by decide) ?_
  refine z_icmp_lt (tgt := 11) C dX4_hasDigits_2 (by decide) (fun c1 => ?_) (fun c1 => ?_)
  · have hF := zif hF c1
    refine z_iconst (v := 0) C dX4_hasDigits_11 (by decide) ?_
    have hu := Option.some.inj hF
    subst hu
    exact z_iret C dX4_hasDigits_12 rfl z_b0
  · have hF := zelse hF c1
    refine z_iload_n C dX4_hasDigits_5 rfl 0 rfl ?_
    refine z_ldc (v := 999999) C kX4_hasDigits_15 dX4_hasDigits_6 ?_
    refine z_icmp_le (tgt := 13) C dX4_hasDigits_8 (by decide) (fun c2 => ?_) (fun c2 => ?_)
    · have hF := zif hF c2
      refine z_iload_n C dX4_hasDigits_13 rfl 0 rfl ?_
      refine z_istore_n (lv' := [(2, .int x1), (0, .int x1), (1, .int x2)]) C dX4_hasDigits_14 rfl (by decide) rfl ?_
      refine z_iconst (v := 0) C dX4_hasDigits_15 (by decide) ?_
      refine z_istore_n (lv' := [(3, .int 0), (2, .int x1), (0, .int x1), (1, .int x2)]) C dX4_hasDigits_16 rfl (by decide) rfl ?_
      exact z_sub C [3, 1, 0] rfl (c_X4_hasDigits_j17 l D cI cJ cZ u C 600 x2 x1 0 hF)
    · have hF := zelse hF c2
      refine z_iconst (v := 0) C dX4_hasDigits_11 (by decide) ?_
      have hu := Option.some.inj hF
      subst hu
      exact z_iret C dX4_hasDigits_12 rfl z_b0
set_option maxHeartbeats 4000000 in
set_option maxRecDepth 100000 in
theorem c_X4_isPath (l : Launch) (D : va_G) (cI cJ cZ : ClassId) (x1 : Int32) (u : Int32) (hF : f_X4_isPath x1 = some u) : zM l yX4_isPath wsX4_isPath ({ frames := 1, cells := 0, slots := 0, locals := 24 }) D (zTy cI cJ cZ) [.int x1] [] (some (.int u)) [] := by
  refine z_body (cc := cX4_isPath) (maxL := 1) (rty := (some .boolean)) (own := RX4) (lv := [(0, .int x1)]) (by decide +kernel) rfl rfl (Nat.le_of_ble_eq_true rfl) rfl (fun p e s m args below meth c A C => ?_)
  refine z_iload_n C dX4_isPath_0 rfl 0 rfl ?_
  refine z_bipush (v := 8) C dX4_isPath_1 (by decide) ?_
  obtain ⟨r1, er1, hF⟩ := zbd hF
  refine z_callS (n := 2) (As := [.int x1, .int 8]) C (c_X4_hasDigits l D cI cJ cZ x1 8 r1 er1) gX4_isPath_X4_hasDigits rfl rfl rfl (by decide +kernel) ⟨Nat.le_of_ble_eq_true rfl, Nat.le_of_ble_eq_true rfl⟩ ⟨Nat.zero_le _, Nat.zero_le _⟩ rfl rfl (Nat.le_of_ble_eq_true rfl) dX4_isPath_3 ?_
  obtain ⟨g2, hF⟩ := zbo_some hF
  have hu := Option.some.inj hF
  subst hu
  exact z_iret C dX4_isPath_6 rfl g2
set_option maxHeartbeats 4000000 in
set_option maxRecDepth 100000 in
theorem c_X4_isPattern (l : Launch) (D : va_G) (cI cJ cZ : ClassId) (x1 : Int32) (u : Int32) (hF : f_X4_isPattern x1 = some u) : zM l yX4_isPattern wsX4_isPattern ({ frames := 1, cells := 0, slots := 0, locals := 24 }) D (zTy cI cJ cZ) [.int x1] [] (some (.int u)) [] := by
  refine z_body (cc := cX4_isPattern) (maxL := 1) (rty := (some .boolean)) (own := RX4) (lv := [(0, .int x1)]) (by decide +kernel) rfl rfl (Nat.le_of_ble_eq_true rfl) rfl (fun p e s m args below meth c A C => ?_)
  refine z_iload_n C dX4_isPattern_0 rfl 0 rfl ?_
  refine z_bipush (v := 9) C dX4_isPattern_1 (by decide) ?_
  obtain ⟨r1, er1, hF⟩ := zbd hF
  refine z_callS (n := 2) (As := [.int x1, .int 9]) C (c_X4_hasDigits l D cI cJ cZ x1 9 r1 er1) gX4_isPattern_X4_hasDigits rfl rfl rfl (by decide +kernel) ⟨Nat.le_of_ble_eq_true rfl, Nat.le_of_ble_eq_true rfl⟩ ⟨Nat.zero_le _, Nat.zero_le _⟩ rfl rfl (Nat.le_of_ble_eq_true rfl) dX4_isPattern_3 ?_
  obtain ⟨g2, hF⟩ := zbo_some hF
  have hu := Option.some.inj hF
  subst hu
  exact z_iret C dX4_isPattern_6 rfl g2
set_option maxHeartbeats 4000000 in
set_option maxRecDepth 100000 in
theorem c_X4_fits_j37 (l : Launch) (D : va_G) (cI cJ cZ : ClassId) (u : Int32) {p : Program} {e : Env} {s : State} {m : MethodId} {args : Array Value} {below : List Frame} {meth : Method} {c : Code} {A : Nat → Prop} (C : zC p s m args meth c cX4_fits 8 (some .boolean) RX4 wsX4_fits D (zTy cI cJ cZ) A s.heap) : ∀ (n : Nat) (v4 : Int32) (v5 : Int32) (v6 : Int32), f_X4_fits_37 n v4 v5 v6 = some u → zW p l e { frames := 1, cells := 0, slots := 0, locals := 23 } s m args below meth c 8 D A s.heap 0 0 (MQ below (zQ D (zTy cI cJ cZ) (some (.int u)) [] A) args s 0 0 A) [] [(4, .int v4), (5, .int v5), (6, .int v6)] 37 [] := by
  intro n
  induction n with
  | zero => intro v4 v5 v6 hF; exact absurd (show none = some u from hF) (fun q => nomatch q)
  | succ n ih =>
    intro v4 v5 v6 hF
    refine z_iload C dX4_fits_37 2 rfl ?_
    refine z_bipush (v := 6) C dX4_fits_39 (by decide) ?_
    refine z_icmp_ge (tgt := 95) C dX4_fits_41 (by decide) (fun c6 => ?_) (fun c6 => ?_)
    · have hF := zif hF c6
      refine z_iconst (v := 1) C dX4_fits_95 (by decide) ?_
      have hu := Option.some.inj hF
      subst hu
      exact z_iret C dX4_fits_96 rfl z_b1
    · have hF := zelse hF c6
      refine z_iload C dX4_fits_44 0 rfl ?_
      refine z_if_le (tgt := 95) C dX4_fits_46 (by decide) (fun c7 => ?_) (fun c7 => ?_)
      · have hF := zif hF c7
        refine z_iconst (v := 1) C dX4_fits_95 (by decide) ?_
        have hu := Option.some.inj hF
        subst hu
        exact z_iret C dX4_fits_96 rfl z_b1
      · have hF := zelse hF c7
        refine z_iload C dX4_fits_49 0 rfl ?_
        refine z_bipush (v := 10) C dX4_fits_51 (by decide) ?_
        refine z_irem C dX4_fits_53 (by decide) ?_
        refine z_istore (lv' := [(7, .int (v4 - v4 / 10 * 10)), (4, .int v4), (5, .int v5), (6, .int v6)]) C dX4_fits_54 (by decide) rfl ?_
        refine z_iload C dX4_fits_56 0 rfl ?_
        refine z_bipush (v := 9) C dX4_fits_58 (by decide) ?_
        refine z_icmp_eq (tgt := 75) C dX4_fits_60 (by decide) (fun c8 => ?_) (fun c8 => ?_)
        · have hF := zif hF c8
          refine z_iload C dX4_fits_75 1 rfl ?_
          refine z_bipush (v := 10) C dX4_fits_77 (by decide) ?_
          refine z_idiv C dX4_fits_79 (by decide) ?_
          refine z_istore (lv' := [(4, .int (v4 / 10)), (7, .int (v4 - v4 / 10 * 10)), (5, .int v5), (6, .int v6)]) C dX4_fits_80 (by decide) rfl ?_
          refine z_iload C dX4_fits_82 2 rfl ?_
          refine z_bipush (v := 10) C dX4_fits_84 (by decide) ?_
          refine z_idiv C dX4_fits_86 (by decide) ?_
          refine z_istore (lv' := [(5, .int (v5 / 10)), (4, .int (v4 / 10)), (7, .int (v4 - v4 / 10 * 10)), (6, .int v6)]) C dX4_fits_87 (by decide) rfl ?_
          refine z_iinc (v := (v6 + 1)) (lv' := [(6, .int (v6 + 1)), (5, .int (v5 / 10)), (4, .int (v4 / 10)), (7, .int (v4 - v4 / 10 * 10))]) C dX4_fits_89 3 rfl rfl (by decide) rfl ?_
          refine z_goto (tgt := 37) C dX4_fits_92 (by decide) ?_
          exact z_sub C [2, 1, 0] rfl (ih (v4 / 10) (v5 / 10) (v6 + 1) hF)
        · have hF := zelse hF c8
          refine z_iload C dX4_fits_63 0 rfl ?_
          refine z_iload C dX4_fits_65 2 rfl ?_
          refine z_bipush (v := 10) C dX4_fits_67 (by decide) ?_
          refine z_irem C dX4_fits_69 (by decide) ?_
          refine z_icmp_eq (tgt := 75) C dX4_fits_70 (by decide) (fun c9 => ?_) (fun c9 => ?_)
          · have hF := zif hF c9
            refine z_iload C dX4_fits_75 1 rfl ?_
            refine z_bipush (v := 10) C dX4_fits_77 (by decide) ?_
            refine z_idiv C dX4_fits_79 (by decide) ?_
            refine z_istore (lv' := [(4, .int (v4 / 10)), (7, .int (v4 - v4 / 10 * 10)), (5, .int v5), (6, .int v6)]) C dX4_fits_80 (by decide) rfl ?_
            refine z_iload C dX4_fits_82 2 rfl ?_
            refine z_bipush (v := 10) C dX4_fits_84 (by decide) ?_
            refine z_idiv C dX4_fits_86 (by decide) ?_
            refine z_istore (lv' := [(5, .int (v5 / 10)), (4, .int (v4 / 10)), (7, .int (v4 - v4 / 10 * 10)), (6, .int v6)]) C dX4_fits_87 (by decide) rfl ?_
            refine z_iinc (v := (v6 + 1)) (lv' := [(6, .int (v6 + 1)), (5, .int (v5 / 10)), (4, .int (v4 / 10)), (7, .int (v4 - v4 / 10 * 10))]) C dX4_fits_89 3 rfl rfl (by decide) rfl ?_
            refine z_goto (tgt := 37) C dX4_fits_92 (by decide) ?_
            exact z_sub C [2, 1, 0] rfl (ih (v4 / 10) (v5 / 10) (v6 + 1) hF)
          · have hF := zelse hF c9
            refine z_iconst (v := 0) C dX4_fits_73 (by decide) ?_
            have hu := Option.some.inj hF
            subst hu
            exact z_iret C dX4_fits_74 rfl z_b0
set_option maxHeartbeats 4000000 in
set_option maxRecDepth 100000 in
theorem c_X4_fits (l : Launch) (D : va_G) (cI cJ cZ : ClassId) (x1 : Int32) (x2 : Int32) (x3 : Int32) (u : Int32) (hF : f_X4_fits x1 x2 x3 = some u) : zM l yX4_fits wsX4_fits ({ frames := 1, cells := 0, slots := 0, locals := 23 }) D (zTy cI cJ cZ) [.int x1, .int x2, .int x3] [] (some (.int u)) [] := by
  refine z_body (cc := cX4_fits) (maxL := 8) (rty := (some .boolean)) (own := RX4) (lv := [(0, .int x1), (1, .int x2), (2, .int x3)]) (by decide +kernel) rfl rfl (Nat.le_of_ble_eq_true rfl) rfl (fun p e s m args below meth c A C => ?_)
  refine z_iload_n C dX4_fits_0 rfl 2 rfl ?_
  obtain ⟨r1, er1, hF⟩ := zbd hF
  refine z_callS (n := 1) (As := [.int x3]) C (c_X4_length l D cI cJ cZ x3 r1 er1) gX4_fits_X4_length rfl rfl rfl (by decide +kernel) ⟨Nat.le_of_ble_eq_true rfl, Nat.le_of_ble_eq_true rfl⟩ ⟨Nat.zero_le _, Nat.zero_le _⟩ rfl rfl (Nat.le_of_ble_eq_true rfl) dX4_fits_1 ?_
  refine z_iload_n C dX4_fits_4 rfl 0 rfl ?_
  obtain ⟨r2, er2, hF⟩ := zbd hF
  refine z_callS (n := 1) (As := [.int x1]) C (c_X4_length l D cI cJ cZ x1 r2 er2) gX4_fits_X4_length rfl rfl rfl (by decide +kernel) ⟨Nat.le_of_ble_eq_true rfl, Nat.le_of_ble_eq_true rfl⟩ ⟨Nat.zero_le _, Nat.zero_le _⟩ rfl rfl (Nat.le_of_ble_eq_true rfl) dX4_fits_5 ?_
  refine z_isub C dX4_fits_8 ?_
  refine z_istore_n (lv' := [(3, .int (r1 - r2)), (0, .int x1), (1, .int x2), (2, .int x3)]) C dX4_fits_9 rfl (by decide) rfl ?_
  refine z_iload_n C dX4_fits_10 rfl 0 rfl ?_
  refine z_if_lt (tgt := 22) C dX4_fits_11 (by decide) (fun c3 => ?_) (fun c3 => ?_)
  · have hF := zif hF c3
    refine z_iconst (v := 0) C dX4_fits_22 (by decide) ?_
    have hu := Option.some.inj hF
    subst hu
    exact z_iret C dX4_fits_23 rfl z_b0
  · have hF := zelse hF c3
    refine z_iload_n C dX4_fits_14 rfl 0 rfl ?_
    refine z_if_le (tgt := 24) C dX4_fits_15 (by decide) (fun c4 => ?_) (fun c4 => ?_)
    · have hF := zif hF c4
      refine z_iload_n C dX4_fits_24 rfl 1 rfl ?_
      refine z_istore (lv' := [(4, .int x1), (3, .int (r1 - r2)), (0, .int x1), (1, .int x2), (2, .int x3)]) C dX4_fits_25 (by decide) rfl ?_
      refine z_iload_n C dX4_fits_27 rfl 4 rfl ?_
      refine z_iload_n C dX4_fits_28 rfl 1 rfl ?_
      obtain ⟨r5, er5, hF⟩ := zbd hF
      refine z_callS (n := 2) (As := [.int x3, .int (r1 - r2)]) C (c_X4_withoutLast l D cI cJ cZ x3 (r1 - r2) r5 er5) gX4_fits_X4_withoutLast rfl rfl rfl (by decide +kernel) ⟨Nat.le_of_ble_eq_true rfl, Nat.le_of_ble_eq_true rfl⟩ ⟨Nat.zero_le _, Nat.zero_le _⟩ rfl rfl (Nat.le_of_ble_eq_true rfl) dX4_fits_29 ?_
      refine z_istore (lv' := [(5, .int r5), (4, .int x1), (3, .int (r1 - r2)), (0, .int x1), (1, .int x2), (2, .int x3)]) C dX4_fits_32 (by decide) rfl ?_
      refine z_iconst (v := 0) C dX4_fits_34 (by decide) ?_
      refine z_istore (lv' := [(6, .int 0), (5, .int r5), (4, .int x1), (3, .int (r1 - r2)), (0, .int x1), (1, .int x2), (2, .int x3)]) C dX4_fits_35 (by decide) rfl ?_
      exact z_sub C [2, 1, 0] rfl (c_X4_fits_j37 l D cI cJ cZ u C 600 x1 r5 0 hF)
    · have hF := zelse hF c4
      refine z_iload_n C dX4_fits_18 rfl 2 rfl ?_
      refine z_if_ne (tgt := 24) C dX4_fits_19 (by decide) (fun c10 => ?_) (fun c10 => ?_)
      · have hF := zelse hF c10
        refine z_iload_n C dX4_fits_24 rfl 1 rfl ?_
        refine z_istore (lv' := [(4, .int x1), (3, .int (r1 - r2)), (0, .int x1), (1, .int x2), (2, .int x3)]) C dX4_fits_25 (by decide) rfl ?_
        refine z_iload_n C dX4_fits_27 rfl 4 rfl ?_
        refine z_iload_n C dX4_fits_28 rfl 1 rfl ?_
        obtain ⟨r11, er11, hF⟩ := zbd hF
        refine z_callS (n := 2) (As := [.int x3, .int (r1 - r2)]) C (c_X4_withoutLast l D cI cJ cZ x3 (r1 - r2) r11 er11) gX4_fits_X4_withoutLast rfl rfl rfl (by decide +kernel) ⟨Nat.le_of_ble_eq_true rfl, Nat.le_of_ble_eq_true rfl⟩ ⟨Nat.zero_le _, Nat.zero_le _⟩ rfl rfl (Nat.le_of_ble_eq_true rfl) dX4_fits_29 ?_
        refine z_istore (lv' := [(5, .int r11), (4, .int x1), (3, .int (r1 - r2)), (0, .int x1), (1, .int x2), (2, .int x3)]) C dX4_fits_32 (by decide) rfl ?_
        refine z_iconst (v := 0) C dX4_fits_34 (by decide) ?_
        refine z_istore (lv' := [(6, .int 0), (5, .int r11), (4, .int x1), (3, .int (r1 - r2)), (0, .int x1), (1, .int x2), (2, .int x3)]) C dX4_fits_35 (by decide) rfl ?_
        exact z_sub C [2, 1, 0] rfl (c_X4_fits_j37 l D cI cJ cZ u C 600 x1 r11 0 hF)
      · have hF := zif hF c10
        refine z_iconst (v := 0) C dX4_fits_22 (by decide) ?_
        have hu := Option.some.inj hF
        subst hu
        exact z_iret C dX4_fits_23 rfl z_b0
theorem kX5_count_25 : Cond.fieldLink RX5 25 "SecretBroker$Policies" "count" "I" ∈ wsX5_count := by decide +kernel
theorem hX5_count_X5 : ∀ w ∈ wsX50, w ∈ wsX5_count := by decide +kernel
set_option maxHeartbeats 4000000 in
set_option maxRecDepth 100000 in
theorem c_X5_count (l : Launch) (D : va_G) (cI cJ cZ : ClassId) (a5 : Nat → Nat) (P : SS) (u : Int32) (hF : f_X5_count P = some u) : zM l yX5_count wsX5_count ({ frames := 0, cells := 0, slots := 0, locals := 0 }) D (zTy cI cJ cZ) [.ref (a5 0)] (zwX5 cI cJ cZ a5 P) (some (.int u)) (zwX5 cI cJ cZ a5 P) := by
  refine z_body (cc := cX5_count) (maxL := 1) (rty := (some .int)) (own := RX5) (lv := [(0, .ref (a5 0))]) (by decide +kernel) rfl rfl (Nat.le_of_ble_eq_true rfl) rfl (fun p e s m args below meth c A C => ?_)
  refine z_aload_n C dX5_count_0 rfl 0 rfl ?_
  refine z_get (ref := "SecretBroker$Policies") (v := .int (P 4 0)) C hX5_count_X5 0 rfl rfl 4 (by decide) kX5_count_25 (fun _ h9 => h9) rfl dX5_count_1 ?_
  have hu := Option.some.inj hF
  subst hu
  exact z_iret C dX5_count_4 rfl rfl
theorem kX5_has_25 : Cond.fieldLink RX5 25 "SecretBroker$Policies" "count" "I" ∈ wsX5_has := by decide +kernel
theorem hX5_has_X5 : ∀ w ∈ wsX50, w ∈ wsX5_has := by decide +kernel
set_option maxHeartbeats 4000000 in
set_option maxRecDepth 100000 in
theorem c_X5_has (l : Launch) (D : va_G) (cI cJ cZ : ClassId) (a5 : Nat → Nat) (P : SS) (x1 : Int32) (u : Int32) (hF : f_X5_has P x1 = some u) : zM l yX5_has wsX5_has ({ frames := 0, cells := 0, slots := 0, locals := 0 }) D (zTy cI cJ cZ) [.ref (a5 0), .int x1] (zwX5 cI cJ cZ a5 P) (some (.int u)) (zwX5 cI cJ cZ a5 P) := by
  refine z_body (cc := cX5_has) (maxL := 2) (rty := (some .boolean)) (own := RX5) (lv := [(0, .ref (a5 0)), (1, .int x1)]) (by decide +kernel) rfl rfl (Nat.le_of_ble_eq_true rfl) rfl (fun p e s m args below meth c A C => ?_)
  refine z_iload_n C dX5_has_0 rfl 1 rfl ?_
  refine z_if_lt (tgt := 16) C dX5_has_1 (by decide) (fun c1 => ?_) (fun c1 => ?_)
  · have hF := zif hF c1
    refine z_iconst (v := 0) C dX5_has_16 (by decide) ?_
    have hu := Option.some.inj hF
    subst hu
    exact z_iret C dX5_has_17 rfl z_b0
  · have hF := zelse hF c1
    refine z_iload_n C dX5_has_4 rfl 1 rfl ?_
    refine z_aload_n C dX5_has_5 rfl 0 rfl ?_
    refine z_get (ref := "SecretBroker$Policies") (v := .int (P 4 0)) C hX5_has_X5 0 rfl rfl 4 (by decide) kX5_has_25 (fun _ h9 => h9) rfl dX5_has_6 ?_
    refine z_icmp_ge (tgt := 16) C dX5_has_9 (by decide) (fun c2 => ?_) (fun c2 => ?_)
    · have hF := zif hF c2
      refine z_iconst (v := 0) C dX5_has_16 (by decide) ?_
      have hu := Option.some.inj hF
      subst hu
      exact z_iret C dX5_has_17 rfl z_b0
    · have hF := zelse hF c2
      refine z_iconst (v := 1) C dX5_has_12 (by decide) ?_
      refine z_goto (tgt := 17) C dX5_has_13 (by decide) ?_
      have hu := Option.some.inj hF
      subst hu
      exact z_iret C dX5_has_17 rfl z_b1
theorem kX5_hasAll_25 : Cond.fieldLink RX5 25 "SecretBroker$Policies" "count" "I" ∈ wsX5_hasAll := by decide +kernel
theorem hX5_hasAll_X5 : ∀ w ∈ wsX50, w ∈ wsX5_hasAll := by decide +kernel
set_option maxHeartbeats 4000000 in
set_option maxRecDepth 100000 in
theorem c_X5_hasAll (l : Launch) (D : va_G) (cI cJ cZ : ClassId) (a5 : Nat → Nat) (P : SS) (x1 : Int32) (u : Int32) (hF : f_X5_hasAll P x1 = some u) : zM l yX5_hasAll wsX5_hasAll ({ frames := 0, cells := 0, slots := 0, locals := 0 }) D (zTy cI cJ cZ) [.ref (a5 0), .int x1] (zwX5 cI cJ cZ a5 P) (some (.int u)) (zwX5 cI cJ cZ a5 P) := by
  refine z_body (cc := cX5_hasAll) (maxL := 2) (rty := (some .boolean)) (own := RX5) (lv := [(0, .ref (a5 0)), (1, .int x1)]) (by decide +kernel) rfl rfl (Nat.le_of_ble_eq_true rfl) rfl (fun p e s m args below meth c A C => ?_)
  refine z_iload_n C dX5_hasAll_0 rfl 1 rfl ?_
  refine z_if_lt (tgt := 18) C dX5_hasAll_1 (by decide) (fun c1 => ?_) (fun c1 => ?_)
  · have hF := zif hF c1
    refine z_iconst (v := 0) C dX5_hasAll_18 (by decide) ?_
    have hu := Option.some.inj hF
    subst hu
    exact z_iret C dX5_hasAll_19 rfl z_b0
  · have hF := zelse hF c1
    refine z_iload_n C dX5_hasAll_4 rfl 1 rfl ?_
    refine z_iconst (v := 1) C dX5_hasAll_5 (by decide) ?_
    refine z_aload_n C dX5_hasAll_6 rfl 0 rfl ?_
    refine z_get (ref := "SecretBroker$Policies") (v := .int (P 4 0)) C hX5_hasAll_X5 0 rfl rfl 4 (by decide) kX5_hasAll_25 (fun _ h9 => h9) rfl dX5_hasAll_7 ?_
    refine z_ishl C dX5_hasAll_10 ?_
    refine z_icmp_ge (tgt := 18) C dX5_hasAll_11 (by decide) (fun c2 => ?_) (fun c2 => ?_)
    · have hF := zif hF c2
      refine z_iconst (v := 0) C dX5_hasAll_18 (by decide) ?_
      have hu := Option.some.inj hF
      subst hu
      exact z_iret C dX5_hasAll_19 rfl z_b0
    · have hF := zelse hF c2
      refine z_iconst (v := 1) C dX5_hasAll_14 (by decide) ?_
      refine z_goto (tgt := 19) C dX5_hasAll_15 (by decide) ?_
      have hu := Option.some.inj hF
      subst hu
      exact z_iret C dX5_hasAll_19 rfl z_b1
theorem kX5_add_25 : Cond.fieldLink RX5 25 "SecretBroker$Policies" "count" "I" ∈ wsX5_add := by decide +kernel
theorem hX5_add_X5 : ∀ w ∈ wsX50, w ∈ wsX5_add := by decide +kernel
set_option maxHeartbeats 4000000 in
set_option maxRecDepth 100000 in
theorem c_X5_add (l : Launch) (D : va_G) (cI cJ cZ : ClassId) (a5 : Nat → Nat) (P : SS) (u : Int32 × SS) (hF : f_X5_add P = some u) : zM l yX5_add wsX5_add ({ frames := 0, cells := 0, slots := 0, locals := 0 }) D (zTy cI cJ cZ) [.ref (a5 0)] (zwX5 cI cJ cZ a5 P) (some (.int u.1)) (zwX5 cI cJ cZ a5 u.2) := by
  refine z_body (cc := cX5_add) (maxL := 1) (rty := (some .int)) (own := RX5) (lv := [(0, .ref (a5 0))]) (by decide +kernel) rfl rfl (Nat.le_of_ble_eq_true rfl) rfl (fun p e s m args below meth c A C => ?_)
  refine z_aload_n C dX5_add_0 rfl 0 rfl ?_
  refine z_dup C dX5_add_1 rfl ?_
  refine z_get (ref := "SecretBroker$Policies") (v := .int (P 4 0)) C hX5_add_X5 0 rfl rfl 4 (by decide) kX5_add_25 (fun _ h9 => h9) rfl dX5_add_2 ?_
  refine z_iconst (v := 1) C dX5_add_5 (by decide) ?_
  refine z_iadd C dX5_add_6 ?_
  refine z_put (ws' := (zwX5 cI cJ cZ a5 (zs P 4 ((P 4 0) + 1)))) (ref := "SecretBroker$Policies") (ty := .int) C hX5_add_X5 tyX5 tyX5_ok nmX5 0 rfl rfl 4 (by decide) kX5_add_25 (fun _ h9 => h9) rfl (by decide +kernel) rfl rfl (Nat.le_of_ble_eq_true rfl) dX5_add_7 (zs_val P 4 ((P 4 0) + 1)) (zf_X5_4 cI cJ cZ a5 P ((P 4 0) + 1)) ?_
  refine z_aload_n C dX5_add_10 rfl 0 rfl ?_
  refine z_get (ref := "SecretBroker$Policies") (v := .int ((zs P 4 ((P 4 0) + 1)) 4 0)) C hX5_add_X5 0 rfl rfl 4 (by decide) kX5_add_25 (fun _ h9 => h9) rfl dX5_add_11 ?_
  refine z_iconst (v := 1) C dX5_add_14 (by decide) ?_
  refine z_isub C dX5_add_15 ?_
  have hu := Option.some.inj hF
  subst hu
  exact z_iret C dX5_add_16 rfl rfl
theorem kX5_rulesOf_9 : Cond.fieldLink RX5 9 "SecretBroker$Policies" "ruleCounts" "[I" ∈ wsX5_rulesOf := by decide +kernel
theorem hX5_rulesOf_X5 : ∀ w ∈ wsX50, w ∈ wsX5_rulesOf := by decide +kernel
set_option maxHeartbeats 4000000 in
set_option maxRecDepth 100000 in
theorem c_X5_rulesOf (l : Launch) (D : va_G) (cI cJ cZ : ClassId) (a5 : Nat → Nat) (P : SS) (x1 : Int32) (u : Int32) (hF : f_X5_rulesOf P x1 = some u) : zM l yX5_rulesOf wsX5_rulesOf ({ frames := 1, cells := 0, slots := 0, locals := 21 }) D (zTy cI cJ cZ) [.ref (a5 0), .int x1] (zwX5 cI cJ cZ a5 P) (some (.int u)) (zwX5 cI cJ cZ a5 P) := by
  refine z_body (cc := cX5_rulesOf) (maxL := 2) (rty := (some .int)) (own := RX5) (lv := [(0, .ref (a5 0)), (1, .int x1)]) (by decide +kernel) rfl rfl (Nat.le_of_ble_eq_true rfl) rfl (fun p e s m args below meth c A C => ?_)
  refine z_aload_n C dX5_rulesOf_0 rfl 0 rfl ?_
  refine z_iload_n C dX5_rulesOf_1 rfl 1 rfl ?_
  obtain ⟨r1, er1, hF⟩ := zbd hF
  refine z_callV (n := 1) (As := [.int x1]) (ws' := (zwX5 cI cJ cZ a5 P)) C (c_X5_has l D cI cJ cZ a5 P x1 r1 er1) gX5_rulesOf_X5_has rfl rfl rfl (by decide +kernel) ⟨Nat.le_of_ble_eq_true rfl, Nat.le_of_ble_eq_true rfl⟩ ⟨Nat.zero_le _, Nat.zero_le _⟩ 0 rfl rfl [] [] rfl rfl rfl rfl (Nat.le_of_ble_eq_true rfl) dX5_rulesOf_2 ?_
  refine z_if_eq (tgt := 17) C dX5_rulesOf_5 (by decide) (fun c2 => ?_) (fun c2 => ?_)
  · have hF := zif hF c2
    refine z_iconst (v := 0) C dX5_rulesOf_17 (by decide) ?_
    have hu := Option.some.inj hF
    subst hu
    exact z_iret C dX5_rulesOf_18 rfl rfl
  · have hF := zelse hF c2
    refine z_aload_n C dX5_rulesOf_8 rfl 0 rfl ?_
    refine z_get (ref := "SecretBroker$Policies") (v := .ref (a5 1)) C hX5_rulesOf_X5 0 rfl rfl 0 (by decide) kX5_rulesOf_9 (fun _ h9 => h9) rfl dX5_rulesOf_9 ?_
    refine z_iload_n C dX5_rulesOf_12 rfl 1 rfl ?_
    obtain ⟨g3, hF⟩ := zix_some hF
    refine z_iald (v := ((P 0) x1.toNatClampNeg)) C g3 1 rfl rfl rfl dX5_rulesOf_13 ?_
    refine z_goto (tgt := 18) C dX5_rulesOf_14 (by decide) ?_
    have hu := Option.some.inj hF
    subst hu
    exact z_iret C dX5_rulesOf_18 rfl rfl
theorem kX5_empty_9 : Cond.fieldLink RX5 9 "SecretBroker$Policies" "ruleCounts" "[I" ∈ wsX5_empty := by decide +kernel
theorem hX5_empty_X5 : ∀ w ∈ wsX50, w ∈ wsX5_empty := by decide +kernel
set_option maxHeartbeats 4000000 in
set_option maxRecDepth 100000 in
theorem c_X5_empty (l : Launch) (D : va_G) (cI cJ cZ : ClassId) (a5 : Nat → Nat) (P : SS) (x1 : Int32) (u : SS) (hF : f_X5_empty P x1 = some u) : zM l yX5_empty wsX5_empty ({ frames := 1, cells := 0, slots := 0, locals := 21 }) D (zTy cI cJ cZ) [.ref (a5 0), .int x1] (zwX5 cI cJ cZ a5 P) none (zwX5 cI cJ cZ a5 u) := by
  refine z_body (cc := cX5_empty) (maxL := 2) (rty := none) (own := RX5) (lv := [(0, .ref (a5 0)), (1, .int x1)]) (by decide +kernel) rfl rfl (Nat.le_of_ble_eq_true rfl) rfl (fun p e s m args below meth c A C => ?_)
  refine z_aload_n C dX5_empty_0 rfl 0 rfl ?_
  refine z_iload_n C dX5_empty_1 rfl 1 rfl ?_
  obtain ⟨r1, er1, hF⟩ := zbd hF
  refine z_callV (n := 1) (As := [.int x1]) (ws' := (zwX5 cI cJ cZ a5 P)) C (c_X5_has l D cI cJ cZ a5 P x1 r1 er1) gX5_empty_X5_has rfl rfl rfl (by decide +kernel) ⟨Nat.le_of_ble_eq_true rfl, Nat.le_of_ble_eq_true rfl⟩ ⟨Nat.zero_le _, Nat.zero_le _⟩ 0 rfl rfl [] [] rfl rfl rfl rfl (Nat.le_of_ble_eq_true rfl) dX5_empty_2 ?_
  refine z_if_eq (tgt := 15) C dX5_empty_5 (by decide) (fun c2 => ?_) (fun c2 => ?_)
  · have hF := zif hF c2
    have hu := Option.some.inj hF
    subst hu
    exact z_vret C dX5_empty_15 rfl
  · have hF := zelse hF c2
    refine z_aload_n C dX5_empty_8 rfl 0 rfl ?_
    refine z_get (ref := "SecretBroker$Policies") (v := .ref (a5 1)) C hX5_empty_X5 0 rfl rfl 0 (by decide) kX5_empty_9 (fun _ h9 => h9) rfl dX5_empty_9 ?_
    refine z_iload_n C dX5_empty_12 rfl 1 rfl ?_
    refine z_iconst (v := 0) C dX5_empty_13 (by decide) ?_
    obtain ⟨g3, hF⟩ := zix_some hF
    refine z_iast (ws' := (zwX5 cI cJ cZ a5 (za P 0 x1 0))) C g3 1 rfl rfl dX5_empty_14 (za_row P 0 x1 0) (zr_X5_0 cI cJ cZ a5 P x1 0) ?_
    have hu := Option.some.inj hF
    subst hu
    exact z_vret C dX5_empty_15 rfl
theorem kX5_find_15 : Cond.fieldLink RX5 15 "SecretBroker$Policies" "patterns" "[I" ∈ wsX5_find := by decide +kernel
theorem kX5_find_18 : Cond.fieldLink RX5 18 "SecretBroker$Policies" "opens" "[Z" ∈ wsX5_find := by decide +kernel
theorem hX5_find_X5 : ∀ w ∈ wsX50, w ∈ wsX5_find := by decide +kernel
set_option maxHeartbeats 4000000 in
set_option maxRecDepth 100000 in
theorem c_X5_find_j20 (l : Launch) (D : va_G) (cI cJ cZ : ClassId) (a5 : Nat → Nat) (P : SS) (u : Int32) {p : Program} {e : Env} {s : State} {m : MethodId} {args : Array Value} {below : List Frame} {meth : Method} {c : Code} {A : Nat → Prop} (C : zC p s m args meth c cX5_find 7 (some .int) RX5 wsX5_find D (zTy cI cJ cZ) A s.heap) : ∀ (n : Nat) (v2 : Int32) (v3 : Int32) (v5 : Int32) (v6 : Int32), f_X5_find_20 P n v2 v3 v5 v6 = some u → zW p l e { frames := 2, cells := 0, slots := 0, locals := 42 } s m args below meth c 7 D A s.heap 0 0 (MQ below (zQ D (zTy cI cJ cZ) (some (.int u)) (zwX5 cI cJ cZ a5 P) A) args s 0 0 A) (zwX5 cI cJ cZ a5 P) [(0, .ref (a5 0)), (2, .int v2), (3, .int v3), (5, .int v5), (6, .int v6)] 20 [] := by
  intro n
  induction n with
  | zero => intro v2 v3 v5 v6 hF; exact absurd (show none = some u from hF) (fun q => nomatch q)
  | succ n ih =>
    intro v2 v3 v5 v6 hF
    refine z_iload C dX5_find_20 4 rfl ?_
    refine z_iload C dX5_find_22 3 rfl ?_
    refine z_icmp_ge (tgt := 58) C dX5_find_24 (by decide) (fun c2 => ?_) (fun c2 => ?_)
    · have hF := zif hF c2
      refine z_iconst (v := (-1)) C dX5_find_58 (by decide) ?_
      have hu := Option.some.inj hF
      subst hu
      exact z_iret C dX5_find_59 rfl rfl
    · have hF := zelse hF c2
      refine z_aload_n C dX5_find_27 rfl 0 rfl ?_
      refine z_get (ref := "SecretBroker$Policies") (v := .ref (a5 2)) C hX5_find_X5 0 rfl rfl 1 (by decide) kX5_find_15 (fun _ h9 => h9) rfl dX5_find_28 ?_
      refine z_iload C dX5_find_31 4 rfl ?_
      obtain ⟨g3, hF⟩ := zix_some hF
      refine z_iald (v := ((P 1) v6.toNatClampNeg)) C g3 2 rfl rfl rfl dX5_find_33 ?_
      refine z_iload_n C dX5_find_34 rfl 1 rfl ?_
      refine z_icmp_ne (tgt := 52) C dX5_find_35 (by decide) (fun c4 => ?_) (fun c4 => ?_)
      · have hF := zelse hF c4
        refine z_iinc (v := (v6 + 1)) (lv' := [(6, .int (v6 + 1)), (0, .ref (a5 0)), (2, .int v2), (3, .int v3), (5, .int v5)]) C dX5_find_52 4 rfl rfl (by decide) rfl ?_
        refine z_goto (tgt := 20) C dX5_find_55 (by decide) ?_
        exact z_sub C [1, 2, 3, 4, 0] rfl (ih v2 v3 v5 (v6 + 1) hF)
      · have hF := zif hF c4
        refine z_aload_n C dX5_find_38 rfl 0 rfl ?_
        refine z_get (ref := "SecretBroker$Policies") (v := .ref (a5 3)) C hX5_find_X5 0 rfl rfl 2 (by decide) kX5_find_18 (fun _ h9 => h9) rfl dX5_find_39 ?_
        refine z_iload C dX5_find_42 4 rfl ?_
        obtain ⟨g5, hF⟩ := zix_some hF
        refine z_zald (v := ((P 2) v6.toNatClampNeg)) C g5 3 rfl rfl rfl dX5_find_44 ?_
        refine z_iload_n C dX5_find_45 rfl 2 rfl ?_
        refine z_icmp_ne (tgt := 52) C dX5_find_46 (by decide) (fun c6 => ?_) (fun c6 => ?_)
        · have hF := zelse hF c6
          refine z_iinc (v := (v6 + 1)) (lv' := [(6, .int (v6 + 1)), (0, .ref (a5 0)), (2, .int v2), (3, .int v3), (5, .int v5)]) C dX5_find_52 4 rfl rfl (by decide) rfl ?_
          refine z_goto (tgt := 20) C dX5_find_55 (by decide) ?_
          exact z_sub C [1, 2, 3, 4, 0] rfl (ih v2 v3 v5 (v6 + 1) hF)
        · have hF := zif hF c6
          refine z_iload C dX5_find_49 4 rfl ?_
          have hu := Option.some.inj hF
          subst hu
          exact z_iret C dX5_find_51 rfl rfl
set_option maxHeartbeats 4000000 in
set_option maxRecDepth 100000 in
theorem c_X5_find (l : Launch) (D : va_G) (cI cJ cZ : ClassId) (a5 : Nat → Nat) (P : SS) (x1 : Int32) (x2 : Int32) (x3 : Int32) (u : Int32) (hF : f_X5_find P x1 x2 x3 = some u) : zM l yX5_find wsX5_find ({ frames := 2, cells := 0, slots := 0, locals := 42 }) D (zTy cI cJ cZ) [.ref (a5 0), .int x1, .int x2, .int x3] (zwX5 cI cJ cZ a5 P) (some (.int u)) (zwX5 cI cJ cZ a5 P) := by
  refine z_body (cc := cX5_find) (maxL := 7) (rty := (some .int)) (own := RX5) (lv := [(0, .ref (a5 0)), (1, .int x1), (2, .int x2), (3, .int x3)]) (by decide +kernel) rfl rfl (Nat.le_of_ble_eq_true rfl) rfl (fun p e s m args below meth c A C => ?_)
  refine z_iload_n C dX5_find_0 rfl 1 rfl ?_
  refine z_bipush (v := 6) C dX5_find_1 (by decide) ?_
  refine z_imul C dX5_find_3 ?_
  refine z_istore (lv' := [(4, .int (x1 * 6)), (0, .ref (a5 0)), (1, .int x1), (2, .int x2), (3, .int x3)]) C dX5_find_4 (by decide) rfl ?_
  refine z_iload C dX5_find_6 0 rfl ?_
  refine z_aload_n C dX5_find_8 rfl 1 rfl ?_
  refine z_iload_n C dX5_find_9 rfl 2 rfl ?_
  obtain ⟨r1, er1, hF⟩ := zbd hF
  refine z_callV (n := 1) (As := [.int x1]) (ws' := (zwX5 cI cJ cZ a5 P)) C (c_X5_rulesOf l D cI cJ cZ a5 P x1 r1 er1) gX5_find_X5_rulesOf rfl rfl rfl (by decide +kernel) ⟨Nat.le_of_ble_eq_true rfl, Nat.le_of_ble_eq_true rfl⟩ ⟨Nat.zero_le _, Nat.zero_le _⟩ 0 rfl rfl [] [] rfl rfl rfl rfl (Nat.le_of_ble_eq_true rfl) dX5_find_10 ?_
  refine z_iadd C dX5_find_13 ?_
  refine z_istore (lv' := [(5, .int ((x1 * 6) + r1)), (4, .int (x1 * 6)), (0, .ref (a5 0)), (1, .int x1), (2, .int x2), (3, .int x3)]) C dX5_find_14 (by decide) rfl ?_
  refine z_iload C dX5_find_16 1 rfl ?_
  refine z_istore (lv' := [(6, .int (x1 * 6)), (5, .int ((x1 * 6) + r1)), (4, .int (x1 * 6)), (0, .ref (a5 0)), (1, .int x1), (2, .int x2), (3, .int x3)]) C dX5_find_18 (by decide) rfl ?_
  exact z_sub C [3, 5, 6, 1, 0] rfl (c_X5_find_j20 l D cI cJ cZ a5 P u C 600 x2 x3 ((x1 * 6) + r1) (x1 * 6) hF)
theorem kX5_addRule_9 : Cond.fieldLink RX5 9 "SecretBroker$Policies" "ruleCounts" "[I" ∈ wsX5_addRule := by decide +kernel
theorem hX5_addRule_X5 : ∀ w ∈ wsX50, w ∈ wsX5_addRule := by decide +kernel
set_option maxHeartbeats 4000000 in
set_option maxRecDepth 100000 in
theorem c_X5_addRule (l : Launch) (D : va_G) (cI cJ cZ : ClassId) (a5 : Nat → Nat) (P : SS) (x1 : Int32) (u : Int32 × SS) (hF : f_X5_addRule P x1 = some u) : zM l yX5_addRule wsX5_addRule ({ frames := 1, cells := 0, slots := 0, locals := 21 }) D (zTy cI cJ cZ) [.ref (a5 0), .int x1] (zwX5 cI cJ cZ a5 P) (some (.int u.1)) (zwX5 cI cJ cZ a5 u.2) := by
  refine z_body (cc := cX5_addRule) (maxL := 2) (rty := (some .int)) (own := RX5) (lv := [(0, .ref (a5 0)), (1, .int x1)]) (by decide +kernel) rfl rfl (Nat.le_of_ble_eq_true rfl) rfl (fun p e s m args below meth c A C => ?_)
  refine z_aload_n C dX5_addRule_0 rfl 0 rfl ?_
  refine z_iload_n C dX5_addRule_1 rfl 1 rfl ?_
  obtain ⟨r1, er1, hF⟩ := zbd hF
  refine z_callV (n := 1) (As := [.int x1]) (ws' := (zwX5 cI cJ cZ a5 P)) C (c_X5_has l D cI cJ cZ a5 P x1 r1 er1) gX5_addRule_X5_has rfl rfl rfl (by decide +kernel) ⟨Nat.le_of_ble_eq_true rfl, Nat.le_of_ble_eq_true rfl⟩ ⟨Nat.zero_le _, Nat.zero_le _⟩ 0 rfl rfl [] [] rfl rfl rfl rfl (Nat.le_of_ble_eq_true rfl) dX5_addRule_2 ?_
  refine z_if_eq (tgt := 19) C dX5_addRule_5 (by decide) (fun c2 => ?_) (fun c2 => ?_)
  · have hF := zif hF c2
    refine z_iconst (v := (-1)) C dX5_addRule_19 (by decide) ?_
    have hu := Option.some.inj hF
    subst hu
    exact z_iret C dX5_addRule_20 rfl rfl
  · have hF := zelse hF c2
    refine z_aload_n C dX5_addRule_8 rfl 0 rfl ?_
    refine z_get (ref := "SecretBroker$Policies") (v := .ref (a5 1)) C hX5_addRule_X5 0 rfl rfl 0 (by decide) kX5_addRule_9 (fun _ h9 => h9) rfl dX5_addRule_9 ?_
    refine z_iload_n C dX5_addRule_12 rfl 1 rfl ?_
    obtain ⟨g3, hF⟩ := zix_some hF
    refine z_iald (v := ((P 0) x1.toNatClampNeg)) C g3 1 rfl rfl rfl dX5_addRule_13 ?_
    refine z_bipush (v := 6) C dX5_addRule_14 (by decide) ?_
    refine z_icmp_lt (tgt := 21) C dX5_addRule_16 (by decide) (fun c4 => ?_) (fun c4 => ?_)
    · have hF := zif hF c4
      refine z_aload_n C dX5_addRule_21 rfl 0 rfl ?_
      refine z_get (ref := "SecretBroker$Policies") (v := .ref (a5 1)) C hX5_addRule_X5 0 rfl rfl 0 (by decide) kX5_addRule_9 (fun _ h9 => h9) rfl dX5_addRule_22 ?_
      refine z_iload_n C dX5_addRule_25 rfl 1 rfl ?_
      refine z_dup2 C dX5_addRule_26 rfl rfl ?_
      obtain ⟨g5, hF⟩ := zix_some hF
      refine z_iald (v := ((P 0) x1.toNatClampNeg)) C g5 1 rfl rfl rfl dX5_addRule_27 ?_
      refine z_iconst (v := 1) C dX5_addRule_28 (by decide) ?_
      refine z_iadd C dX5_addRule_29 ?_
      obtain ⟨g6, hF⟩ := zix_some hF
      refine z_iast (ws' := (zwX5 cI cJ cZ a5 (za P 0 x1 (((P 0) x1.toNatClampNeg) + 1)))) C g6 1 rfl rfl dX5_addRule_30 (za_row P 0 x1 (((P 0) x1.toNatClampNeg) + 1)) (zr_X5_0 cI cJ cZ a5 P x1 (((P 0) x1.toNatClampNeg) + 1)) ?_
      refine z_iload_n C dX5_addRule_31 rfl 1 rfl ?_
      refine z_bipush (v := 6) C dX5_addRule_32 (by decide) ?_
      refine z_imul C dX5_addRule_34 ?_
      refine z_aload_n C dX5_addRule_35 rfl 0 rfl ?_
      refine z_get (ref := "SecretBroker$Policies") (v := .ref (a5 1)) C hX5_addRule_X5 0 rfl rfl 0 (by decide) kX5_addRule_9 (fun _ h9 => h9) rfl dX5_addRule_36 ?_
      refine z_iload_n C dX5_addRule_39 rfl 1 rfl ?_
      obtain ⟨g7, hF⟩ := zix_some hF
      refine z_iald (v := (((za P 0 x1 (((P 0) x1.toNatClampNeg) + 1)) 0) x1.toNatClampNeg)) C g7 1 rfl rfl rfl dX5_addRule_40 ?_
      refine z_iadd C dX5_addRule_41 ?_
      refine z_iconst (v := 1) C dX5_addRule_42 (by decide) ?_
      refine z_isub C dX5_addRule_43 ?_
      have hu := Option.some.inj hF
      subst hu
      exact z_iret C dX5_addRule_44 rfl rfl
    · have hF := zelse hF c4
      refine z_iconst (v := (-1)) C dX5_addRule_19 (by decide) ?_
      have hu := Option.some.inj hF
      subst hu
      exact z_iret C dX5_addRule_20 rfl rfl
theorem kX5_put_15 : Cond.fieldLink RX5 15 "SecretBroker$Policies" "patterns" "[I" ∈ wsX5_put := by decide +kernel
theorem kX5_put_18 : Cond.fieldLink RX5 18 "SecretBroker$Policies" "opens" "[Z" ∈ wsX5_put := by decide +kernel
theorem kX5_put_22 : Cond.fieldLink RX5 22 "SecretBroker$Policies" "sets" "[I" ∈ wsX5_put := by decide +kernel
theorem hX5_put_X5 : ∀ w ∈ wsX50, w ∈ wsX5_put := by decide +kernel
set_option maxHeartbeats 4000000 in
set_option maxRecDepth 100000 in
theorem c_X5_put (l : Launch) (D : va_G) (cI cJ cZ : ClassId) (a5 : Nat → Nat) (P : SS) (x1 : Int32) (x2 : Int32) (x3 : Int32) (x4 : Int32) (u : SS) (hF : f_X5_put P x1 x2 x3 x4 = some u) : zM l yX5_put wsX5_put ({ frames := 3, cells := 0, slots := 0, locals := 68 }) D (zTy cI cJ cZ) [.ref (a5 0), .int x1, .int x2, .int x3, .int x4] (zwX5 cI cJ cZ a5 P) none (zwX5 cI cJ cZ a5 u) := by
  refine z_body (cc := cX5_put) (maxL := 6) (rty := none) (own := RX5) (lv := [(0, .ref (a5 0)), (1, .int x1), (2, .int x2), (3, .int x3), (4, .int x4)]) (by decide +kernel) rfl rfl (Nat.le_of_ble_eq_true rfl) rfl (fun p e s m args below meth c A C => ?_)
  refine z_aload_n C dX5_put_0 rfl 0 rfl ?_
  refine z_iload_n C dX5_put_1 rfl 1 rfl ?_
  refine z_iload_n C dX5_put_2 rfl 2 rfl ?_
  refine z_iload_n C dX5_put_3 rfl 3 rfl ?_
  obtain ⟨r1, er1, hF⟩ := zbd hF
  refine z_callV (n := 3) (As := [.int x1, .int x2, .int x3]) (ws' := (zwX5 cI cJ cZ a5 P)) C (c_X5_find l D cI cJ cZ a5 P x1 x2 x3 r1 er1) gX5_put_X5_find rfl rfl rfl (by decide +kernel) ⟨Nat.le_of_ble_eq_true rfl, Nat.le_of_ble_eq_true rfl⟩ ⟨Nat.zero_le _, Nat.zero_le _⟩ 0 rfl rfl [] [] rfl rfl rfl rfl (Nat.le_of_ble_eq_true rfl) dX5_put_4 ?_
  refine z_istore (lv' := [(5, .int r1), (0, .ref (a5 0)), (1, .int x1), (2, .int x2), (3, .int x3), (4, .int x4)]) C dX5_put_7 (by decide) rfl ?_
  refine z_iload C dX5_put_9 0 rfl ?_
  refine z_iconst (v := (-1)) C dX5_put_11 (by decide) ?_
  refine z_icmp_ne (tgt := 22) C dX5_put_12 (by decide) (fun c2 => ?_) (fun c2 => ?_)
  · have hF := zelse hF c2
    refine z_iload C dX5_put_22 0 rfl ?_
    refine z_iconst (v := (-1)) C dX5_put_24 (by decide) ?_
    refine z_icmp_eq (tgt := 53) C dX5_put_25 (by decide) (fun c3 => ?_) (fun c3 => ?_)
    · have hF := zif hF c3
      have hu := Option.some.inj hF
      subst hu
      exact z_vret C dX5_put_53 rfl
    · have hF := zelse hF c3
      refine z_aload_n C dX5_put_28 rfl 1 rfl ?_
      refine z_get (ref := "SecretBroker$Policies") (v := .ref (a5 2)) C hX5_put_X5 0 rfl rfl 1 (by decide) kX5_put_15 (fun _ h9 => h9) rfl dX5_put_29 ?_
      refine z_iload C dX5_put_32 0 rfl ?_
      refine z_iload_n C dX5_put_34 rfl 3 rfl ?_
      obtain ⟨g4, hF⟩ := zix_some hF
      refine z_iast (ws' := (zwX5 cI cJ cZ a5 (za P 1 r1 x2))) C g4 2 rfl rfl dX5_put_35 (za_row P 1 r1 x2) (zr_X5_1 cI cJ cZ a5 P r1 x2) ?_
      refine z_aload_n C dX5_put_36 rfl 1 rfl ?_
      refine z_get (ref := "SecretBroker$Policies") (v := .ref (a5 3)) C hX5_put_X5 0 rfl rfl 2 (by decide) kX5_put_18 (fun _ h9 => h9) rfl dX5_put_37 ?_
      refine z_iload C dX5_put_40 0 rfl ?_
      refine z_iload_n C dX5_put_42 rfl 4 rfl ?_
      obtain ⟨g5, hF⟩ := zix_some hF
      refine z_zast (ws' := (zwX5 cI cJ cZ a5 (za (za P 1 r1 x2) 2 r1 (vp_nar .boolean x3)))) C g5 3 rfl rfl dX5_put_43 (za_row (za P 1 r1 x2) 2 r1 (vp_nar .boolean x3)) (zr_X5_2 cI cJ cZ a5 (za P 1 r1 x2) r1 (vp_nar .boolean x3)) ?_
      refine z_aload_n C dX5_put_44 rfl 1 rfl ?_
      refine z_get (ref := "SecretBroker$Policies") (v := .ref (a5 4)) C hX5_put_X5 0 rfl rfl 3 (by decide) kX5_put_22 (fun _ h9 => h9) rfl dX5_put_45 ?_
      refine z_iload C dX5_put_48 0 rfl ?_
      refine z_iload C dX5_put_50 5 rfl ?_
      obtain ⟨g6, hF⟩ := zix_some hF
      refine z_iast (ws' := (zwX5 cI cJ cZ a5 (za (za (za P 1 r1 x2) 2 r1 (vp_nar .boolean x3)) 3 r1 x4))) C g6 4 rfl rfl dX5_put_52 (za_row (za (za P 1 r1 x2) 2 r1 (vp_nar .boolean x3)) 3 r1 x4) (zr_X5_3 cI cJ cZ a5 (za (za P 1 r1 x2) 2 r1 (vp_nar .boolean x3)) r1 x4) ?_
      have hu := Option.some.inj hF
      subst hu
      exact z_vret C dX5_put_53 rfl
  · have hF := zif hF c2
    refine z_aload_n C dX5_put_15 rfl 1 rfl ?_
    refine z_iload_n C dX5_put_16 rfl 2 rfl ?_
    obtain ⟨r7, er7, hF⟩ := zbd hF
    refine z_callV (n := 1) (As := [.int x1]) (ws' := (zwX5 cI cJ cZ a5 r7.2)) C (c_X5_addRule l D cI cJ cZ a5 P x1 r7 er7) gX5_put_X5_addRule rfl rfl rfl (by decide +kernel) ⟨Nat.le_of_ble_eq_true rfl, Nat.le_of_ble_eq_true rfl⟩ ⟨Nat.zero_le _, Nat.zero_le _⟩ 0 rfl rfl [] [] rfl rfl rfl rfl (Nat.le_of_ble_eq_true rfl) dX5_put_17 ?_
    refine z_istore (lv' := [(5, .int r7.1), (0, .ref (a5 0)), (1, .int x1), (2, .int x2), (3, .int x3), (4, .int x4)]) C dX5_put_20 (by decide) rfl ?_
    refine z_iload C dX5_put_22 0 rfl ?_
    refine z_iconst (v := (-1)) C dX5_put_24 (by decide) ?_
    refine z_icmp_eq (tgt := 53) C dX5_put_25 (by decide) (fun c8 => ?_) (fun c8 => ?_)
    · have hF := zif hF c8
      have hu := Option.some.inj hF
      subst hu
      exact z_vret C dX5_put_53 rfl
    · have hF := zelse hF c8
      refine z_aload_n C dX5_put_28 rfl 1 rfl ?_
      refine z_get (ref := "SecretBroker$Policies") (v := .ref (a5 2)) C hX5_put_X5 0 rfl rfl 1 (by decide) kX5_put_15 (fun _ h9 => h9) rfl dX5_put_29 ?_
      refine z_iload C dX5_put_32 0 rfl ?_
      refine z_iload_n C dX5_put_34 rfl 3 rfl ?_
      obtain ⟨g9, hF⟩ := zix_some hF
      refine z_iast (ws' := (zwX5 cI cJ cZ a5 (za r7.2 1 r7.1 x2))) C g9 2 rfl rfl dX5_put_35 (za_row r7.2 1 r7.1 x2) (zr_X5_1 cI cJ cZ a5 r7.2 r7.1 x2) ?_
      refine z_aload_n C dX5_put_36 rfl 1 rfl ?_
      refine z_get (ref := "SecretBroker$Policies") (v := .ref (a5 3)) C hX5_put_X5 0 rfl rfl 2 (by decide) kX5_put_18 (fun _ h9 => h9) rfl dX5_put_37 ?_
      refine z_iload C dX5_put_40 0 rfl ?_
      refine z_iload_n C dX5_put_42 rfl 4 rfl ?_
      obtain ⟨g10, hF⟩ := zix_some hF
      refine z_zast (ws' := (zwX5 cI cJ cZ a5 (za (za r7.2 1 r7.1 x2) 2 r7.1 (vp_nar .boolean x3)))) C g10 3 rfl rfl dX5_put_43 (za_row (za r7.2 1 r7.1 x2) 2 r7.1 (vp_nar .boolean x3)) (zr_X5_2 cI cJ cZ a5 (za r7.2 1 r7.1 x2) r7.1 (vp_nar .boolean x3)) ?_
      refine z_aload_n C dX5_put_44 rfl 1 rfl ?_
      refine z_get (ref := "SecretBroker$Policies") (v := .ref (a5 4)) C hX5_put_X5 0 rfl rfl 3 (by decide) kX5_put_22 (fun _ h9 => h9) rfl dX5_put_45 ?_
      refine z_iload C dX5_put_48 0 rfl ?_
      refine z_iload C dX5_put_50 5 rfl ?_
      obtain ⟨g11, hF⟩ := zix_some hF
      refine z_iast (ws' := (zwX5 cI cJ cZ a5 (za (za (za r7.2 1 r7.1 x2) 2 r7.1 (vp_nar .boolean x3)) 3 r7.1 x4))) C g11 4 rfl rfl dX5_put_52 (za_row (za (za r7.2 1 r7.1 x2) 2 r7.1 (vp_nar .boolean x3)) 3 r7.1 x4) (zr_X5_3 cI cJ cZ a5 (za (za r7.2 1 r7.1 x2) 2 r7.1 (vp_nar .boolean x3)) r7.1 x4) ?_
      have hu := Option.some.inj hF
      subst hu
      exact z_vret C dX5_put_53 rfl
theorem kX5_goesAhead_15 : Cond.fieldLink RX5 15 "SecretBroker$Policies" "patterns" "[I" ∈ wsX5_goesAhead := by decide +kernel
theorem kX5_goesAhead_18 : Cond.fieldLink RX5 18 "SecretBroker$Policies" "opens" "[Z" ∈ wsX5_goesAhead := by decide +kernel
theorem hX5_goesAhead_X5 : ∀ w ∈ wsX50, w ∈ wsX5_goesAhead := by decide +kernel
set_option maxHeartbeats 4000000 in
set_option maxRecDepth 100000 in
theorem c_X5_goesAhead (l : Launch) (D : va_G) (cI cJ cZ : ClassId) (a5 : Nat → Nat) (P : SS) (x1 : Int32) (x2 : Int32) (u : Int32) (hF : f_X5_goesAhead P x1 x2 = some u) : zM l yX5_goesAhead wsX5_goesAhead ({ frames := 1, cells := 0, slots := 0, locals := 23 }) D (zTy cI cJ cZ) [.ref (a5 0), .int x1, .int x2] (zwX5 cI cJ cZ a5 P) (some (.int u)) (zwX5 cI cJ cZ a5 P) := by
  refine z_body (cc := cX5_goesAhead) (maxL := 4) (rty := (some .boolean)) (own := RX5) (lv := [(0, .ref (a5 0)), (1, .int x1), (2, .int x2)]) (by decide +kernel) rfl rfl (Nat.le_of_ble_eq_true rfl) rfl (fun p e s m args below meth c A C => ?_)
  refine z_aload_n C dX5_goesAhead_0 rfl 0 rfl ?_
  refine z_get (ref := "SecretBroker$Policies") (v := .ref (a5 2)) C hX5_goesAhead_X5 0 rfl rfl 1 (by decide) kX5_goesAhead_15 (fun _ h9 => h9) rfl dX5_goesAhead_1 ?_
  refine z_iload_n C dX5_goesAhead_4 rfl 1 rfl ?_
  obtain ⟨g1, hF⟩ := zix_some hF
  refine z_iald (v := ((P 1) x1.toNatClampNeg)) C g1 2 rfl rfl rfl dX5_goesAhead_5 ?_
  obtain ⟨r2, er2, hF⟩ := zbd hF
  refine z_callS (n := 1) (As := [.int ((P 1) x1.toNatClampNeg)]) C (c_X4_length l D cI cJ cZ ((P 1) x1.toNatClampNeg) r2 er2) gX5_goesAhead_X4_length rfl rfl rfl (by decide +kernel) ⟨Nat.le_of_ble_eq_true rfl, Nat.le_of_ble_eq_true rfl⟩ ⟨Nat.zero_le _, Nat.zero_le _⟩ rfl rfl (Nat.le_of_ble_eq_true rfl) dX5_goesAhead_6 ?_
  refine z_aload_n C dX5_goesAhead_9 rfl 0 rfl ?_
  refine z_get (ref := "SecretBroker$Policies") (v := .ref (a5 2)) C hX5_goesAhead_X5 0 rfl rfl 1 (by decide) kX5_goesAhead_15 (fun _ h9 => h9) rfl dX5_goesAhead_10 ?_
  refine z_iload_n C dX5_goesAhead_13 rfl 2 rfl ?_
  obtain ⟨g3, hF⟩ := zix_some hF
  refine z_iald (v := ((P 1) x2.toNatClampNeg)) C g3 2 rfl rfl rfl dX5_goesAhead_14 ?_
  obtain ⟨r4, er4, hF⟩ := zbd hF
  refine z_callS (n := 1) (As := [.int ((P 1) x2.toNatClampNeg)]) C (c_X4_length l D cI cJ cZ ((P 1) x2.toNatClampNeg) r4 er4) gX5_goesAhead_X4_length rfl rfl rfl (by decide +kernel) ⟨Nat.le_of_ble_eq_true rfl, Nat.le_of_ble_eq_true rfl⟩ ⟨Nat.zero_le _, Nat.zero_le _⟩ rfl rfl (Nat.le_of_ble_eq_true rfl) dX5_goesAhead_15 ?_
  refine z_isub C dX5_goesAhead_18 ?_
  refine z_istore_n (lv' := [(3, .int (r2 - r4)), (0, .ref (a5 0)), (1, .int x1), (2, .int x2)]) C dX5_goesAhead_19 rfl (by decide) rfl ?_
  refine z_iload_n C dX5_goesAhead_20 rfl 0 rfl ?_
  refine z_if_eq (tgt := 34) C dX5_goesAhead_21 (by decide) (fun c5 => ?_) (fun c5 => ?_)
  · have hF := zif hF c5
    refine z_aload_n C dX5_goesAhead_34 rfl 1 rfl ?_
    refine z_get (ref := "SecretBroker$Policies") (v := .ref (a5 3)) C hX5_goesAhead_X5 0 rfl rfl 2 (by decide) kX5_goesAhead_18 (fun _ h9 => h9) rfl dX5_goesAhead_35 ?_
    refine z_iload_n C dX5_goesAhead_38 rfl 2 rfl ?_
    obtain ⟨g6, hF⟩ := zix_some hF
    refine z_zald (v := ((P 2) x1.toNatClampNeg)) C g6 3 rfl rfl rfl dX5_goesAhead_39 ?_
    refine z_aload_n C dX5_goesAhead_40 rfl 1 rfl ?_
    refine z_get (ref := "SecretBroker$Policies") (v := .ref (a5 3)) C hX5_goesAhead_X5 0 rfl rfl 2 (by decide) kX5_goesAhead_18 (fun _ h9 => h9) rfl dX5_goesAhead_41 ?_
    refine z_iload_n C dX5_goesAhead_44 rfl 3 rfl ?_
    obtain ⟨g7, hF⟩ := zix_some hF
    refine z_zald (v := ((P 2) x2.toNatClampNeg)) C g7 3 rfl rfl rfl dX5_goesAhead_45 ?_
    refine z_icmp_eq (tgt := 56) C dX5_goesAhead_46 (by decide) (fun c8 => ?_) (fun c8 => ?_)
    · have hF := zif hF c8
      refine z_aload_n C dX5_goesAhead_56 rfl 1 rfl ?_
      refine z_get (ref := "SecretBroker$Policies") (v := .ref (a5 2)) C hX5_goesAhead_X5 0 rfl rfl 1 (by decide) kX5_goesAhead_15 (fun _ h9 => h9) rfl dX5_goesAhead_57 ?_
      refine z_iload_n C dX5_goesAhead_60 rfl 2 rfl ?_
      obtain ⟨g9, hF⟩ := zix_some hF
      refine z_iald (v := ((P 1) x1.toNatClampNeg)) C g9 2 rfl rfl rfl dX5_goesAhead_61 ?_
      refine z_aload_n C dX5_goesAhead_62 rfl 1 rfl ?_
      refine z_get (ref := "SecretBroker$Policies") (v := .ref (a5 2)) C hX5_goesAhead_X5 0 rfl rfl 1 (by decide) kX5_goesAhead_15 (fun _ h9 => h9) rfl dX5_goesAhead_63 ?_
      refine z_iload_n C dX5_goesAhead_66 rfl 3 rfl ?_
      obtain ⟨g10, hF⟩ := zix_some hF
      refine z_iald (v := ((P 1) x2.toNatClampNeg)) C g10 2 rfl rfl rfl dX5_goesAhead_67 ?_
      refine z_icmp_ge (tgt := 75) C dX5_goesAhead_68 (by decide) (fun c11 => ?_) (fun c11 => ?_)
      · have hF := zif hF c11
        refine z_iconst (v := 0) C dX5_goesAhead_75 (by decide) ?_
        have hu := Option.some.inj hF
        subst hu
        exact z_iret C dX5_goesAhead_76 rfl z_b0
      · have hF := zelse hF c11
        refine z_iconst (v := 1) C dX5_goesAhead_71 (by decide) ?_
        refine z_goto (tgt := 76) C dX5_goesAhead_72 (by decide) ?_
        have hu := Option.some.inj hF
        subst hu
        exact z_iret C dX5_goesAhead_76 rfl z_b1
    · have hF := zelse hF c8
      refine z_aload_n C dX5_goesAhead_49 rfl 1 rfl ?_
      refine z_get (ref := "SecretBroker$Policies") (v := .ref (a5 3)) C hX5_goesAhead_X5 0 rfl rfl 2 (by decide) kX5_goesAhead_18 (fun _ h9 => h9) rfl dX5_goesAhead_50 ?_
      refine z_iload_n C dX5_goesAhead_53 rfl 3 rfl ?_
      obtain ⟨g12, hF⟩ := zix_some hF
      refine z_zald (v := ((P 2) x2.toNatClampNeg)) C g12 3 rfl rfl rfl dX5_goesAhead_54 ?_
      obtain ⟨g13, hF⟩ := zbo_some hF
      have hu := Option.some.inj hF
      subst hu
      exact z_iret C dX5_goesAhead_55 rfl g13
  · have hF := zelse hF c5
    refine z_iload_n C dX5_goesAhead_24 rfl 0 rfl ?_
    refine z_if_le (tgt := 32) C dX5_goesAhead_25 (by decide) (fun c14 => ?_) (fun c14 => ?_)
    · have hF := zif hF c14
      refine z_iconst (v := 0) C dX5_goesAhead_32 (by decide) ?_
      have hu := Option.some.inj hF
      subst hu
      exact z_iret C dX5_goesAhead_33 rfl z_b0
    · have hF := zelse hF c14
      refine z_iconst (v := 1) C dX5_goesAhead_28 (by decide) ?_
      refine z_goto (tgt := 33) C dX5_goesAhead_29 (by decide) ?_
      have hu := Option.some.inj hF
      subst hu
      exact z_iret C dX5_goesAhead_33 rfl z_b1
theorem kX5_decided_22 : Cond.fieldLink RX5 22 "SecretBroker$Policies" "sets" "[I" ∈ wsX5_decided := by decide +kernel
theorem kX5_decided_15 : Cond.fieldLink RX5 15 "SecretBroker$Policies" "patterns" "[I" ∈ wsX5_decided := by decide +kernel
theorem kX5_decided_18 : Cond.fieldLink RX5 18 "SecretBroker$Policies" "opens" "[Z" ∈ wsX5_decided := by decide +kernel
theorem hX5_decided_X5 : ∀ w ∈ wsX50, w ∈ wsX5_decided := by decide +kernel
set_option maxHeartbeats 4000000 in
set_option maxRecDepth 100000 in
theorem c_X5_decided_j20 (l : Launch) (D : va_G) (cI cJ cZ : ClassId) (a5 : Nat → Nat) (P : SS) (u : Int32) {p : Program} {e : Env} {s : State} {m : MethodId} {args : Array Value} {below : List Frame} {meth : Method} {c : Code} {A : Nat → Prop} (C : zC p s m args meth c cX5_decided 7 (some .int) RX5 wsX5_decided D (zTy cI cJ cZ) A s.heap) : ∀ (n : Nat) (v2 : Int32) (v4 : Int32) (v5 : Int32) (v6 : Int32), f_X5_decided_20 P n v2 v4 v5 v6 = some u → zW p l e { frames := 2, cells := 0, slots := 0, locals := 50 } s m args below meth c 7 D A s.heap 0 0 (MQ below (zQ D (zTy cI cJ cZ) (some (.int u)) (zwX5 cI cJ cZ a5 P) A) args s 0 0 A) (zwX5 cI cJ cZ a5 P) [(0, .ref (a5 0)), (2, .int v2), (4, .int v4), (5, .int v5), (6, .int v6)] 20 [] := by
  intro n
  induction n with
  | zero => intro v2 v4 v5 v6 hF; exact absurd (show none = some u from hF) (fun q => nomatch q)
  | succ n ih =>
    intro v2 v4 v5 v6 hF
    refine z_iload C dX5_decided_20 4 rfl ?_
    refine z_iload C dX5_decided_22 2 rfl ?_
    refine z_icmp_ge (tgt := 75) C dX5_decided_24 (by decide) (fun c2 => ?_) (fun c2 => ?_)
    · have hF := zif hF c2
      refine z_iload C dX5_decided_75 3 rfl ?_
      refine z_iconst (v := (-1)) C dX5_decided_77 (by decide) ?_
      refine z_icmp_ne (tgt := 85) C dX5_decided_78 (by decide) (fun c3 => ?_) (fun c3 => ?_)
      · have hF := zelse hF c3
        refine z_aload_n C dX5_decided_85 rfl 0 rfl ?_
        refine z_get (ref := "SecretBroker$Policies") (v := .ref (a5 4)) C hX5_decided_X5 0 rfl rfl 3 (by decide) kX5_decided_22 (fun _ h9 => h9) rfl dX5_decided_86 ?_
        refine z_iload C dX5_decided_89 3 rfl ?_
        obtain ⟨g4, hF⟩ := zix_some hF
        refine z_iald (v := ((P 3) v5.toNatClampNeg)) C g4 4 rfl rfl rfl dX5_decided_91 ?_
        have hu := Option.some.inj hF
        subst hu
        exact z_iret C dX5_decided_92 rfl rfl
      · have hF := zif hF c3
        refine z_iconst (v := 0) C dX5_decided_81 (by decide) ?_
        refine z_goto (tgt := 92) C dX5_decided_82 (by decide) ?_
        have hu := Option.some.inj hF
        subst hu
        exact z_iret C dX5_decided_92 rfl rfl
    · have hF := zelse hF c2
      refine z_aload_n C dX5_decided_27 rfl 0 rfl ?_
      refine z_get (ref := "SecretBroker$Policies") (v := .ref (a5 2)) C hX5_decided_X5 0 rfl rfl 1 (by decide) kX5_decided_15 (fun _ h9 => h9) rfl dX5_decided_28 ?_
      refine z_iload C dX5_decided_31 4 rfl ?_
      obtain ⟨g5, hF⟩ := zix_some hF
      refine z_iald (v := ((P 1) v6.toNatClampNeg)) C g5 2 rfl rfl rfl dX5_decided_33 ?_
      refine z_aload_n C dX5_decided_34 rfl 0 rfl ?_
      refine z_get (ref := "SecretBroker$Policies") (v := .ref (a5 3)) C hX5_decided_X5 0 rfl rfl 2 (by decide) kX5_decided_18 (fun _ h9 => h9) rfl dX5_decided_35 ?_
      refine z_iload C dX5_decided_38 4 rfl ?_
      obtain ⟨g6, hF⟩ := zix_some hF
      refine z_zald (v := ((P 2) v6.toNatClampNeg)) C g6 3 rfl rfl rfl dX5_decided_40 ?_
      refine z_iload_n C dX5_decided_41 rfl 1 rfl ?_
      obtain ⟨r7, er7, hF⟩ := zbd hF
      refine z_callS (n := 3) (As := [.int ((P 1) v6.toNatClampNeg), .int ((P 2) v6.toNatClampNeg), .int v2]) C (c_X4_fits l D cI cJ cZ ((P 1) v6.toNatClampNeg) ((P 2) v6.toNatClampNeg) v2 r7 er7) gX5_decided_X4_fits rfl rfl rfl (by decide +kernel) ⟨Nat.le_of_ble_eq_true rfl, Nat.le_of_ble_eq_true rfl⟩ ⟨Nat.zero_le _, Nat.zero_le _⟩ rfl rfl (Nat.le_of_ble_eq_true rfl) dX5_decided_42 ?_
      refine z_if_eq (tgt := 69) C dX5_decided_45 (by decide) (fun c8 => ?_) (fun c8 => ?_)
      · have hF := zif hF c8
        refine z_iinc (v := (v6 + 1)) (lv' := [(6, .int (v6 + 1)), (0, .ref (a5 0)), (2, .int v2), (4, .int v4), (5, .int v5)]) C dX5_decided_69 4 rfl rfl (by decide) rfl ?_
        refine z_goto (tgt := 20) C dX5_decided_72 (by decide) ?_
        exact z_sub C [1, 2, 3, 4, 0] rfl (ih v2 v4 v5 (v6 + 1) hF)
      · have hF := zelse hF c8
        refine z_iload C dX5_decided_48 3 rfl ?_
        refine z_iconst (v := (-1)) C dX5_decided_50 (by decide) ?_
        refine z_icmp_eq (tgt := 65) C dX5_decided_51 (by decide) (fun c9 => ?_) (fun c9 => ?_)
        · have hF := zif hF c9
          refine z_iload C dX5_decided_65 4 rfl ?_
          refine z_istore (lv' := [(5, .int v6), (0, .ref (a5 0)), (2, .int v2), (4, .int v4), (6, .int v6)]) C dX5_decided_67 (by decide) rfl ?_
          refine z_iinc (v := (v6 + 1)) (lv' := [(6, .int (v6 + 1)), (5, .int v6), (0, .ref (a5 0)), (2, .int v2), (4, .int v4)]) C dX5_decided_69 4 rfl rfl (by decide) rfl ?_
          refine z_goto (tgt := 20) C dX5_decided_72 (by decide) ?_
          exact z_sub C [2, 3, 4, 1, 0] rfl (ih v2 v4 v6 (v6 + 1) hF)
        · have hF := zelse hF c9
          refine z_aload_n C dX5_decided_54 rfl 0 rfl ?_
          refine z_iload C dX5_decided_55 4 rfl ?_
          refine z_iload C dX5_decided_57 3 rfl ?_
          obtain ⟨r10, er10, hF⟩ := zbd hF
          refine z_callV (n := 2) (As := [.int v6, .int v5]) (ws' := (zwX5 cI cJ cZ a5 P)) C (c_X5_goesAhead l D cI cJ cZ a5 P v6 v5 r10 er10) gX5_decided_X5_goesAhead rfl rfl rfl (by decide +kernel) ⟨Nat.le_of_ble_eq_true rfl, Nat.le_of_ble_eq_true rfl⟩ ⟨Nat.zero_le _, Nat.zero_le _⟩ 0 rfl rfl [] [] rfl rfl rfl rfl (Nat.le_of_ble_eq_true rfl) dX5_decided_59 ?_
          refine z_if_eq (tgt := 69) C dX5_decided_62 (by decide) (fun c11 => ?_) (fun c11 => ?_)
          · have hF := zif hF c11
            refine z_iinc (v := (v6 + 1)) (lv' := [(6, .int (v6 + 1)), (0, .ref (a5 0)), (2, .int v2), (4, .int v4), (5, .int v5)]) C dX5_decided_69 4 rfl rfl (by decide) rfl ?_
            refine z_goto (tgt := 20) C dX5_decided_72 (by decide) ?_
            exact z_sub C [1, 2, 3, 4, 0] rfl (ih v2 v4 v5 (v6 + 1) hF)
          · have hF := zelse hF c11
            refine z_iload C dX5_decided_65 4 rfl ?_
            refine z_istore (lv' := [(5, .int v6), (0, .ref (a5 0)), (2, .int v2), (4, .int v4), (6, .int v6)]) C dX5_decided_67 (by decide) rfl ?_
            refine z_iinc (v := (v6 + 1)) (lv' := [(6, .int (v6 + 1)), (5, .int v6), (0, .ref (a5 0)), (2, .int v2), (4, .int v4)]) C dX5_decided_69 4 rfl rfl (by decide) rfl ?_
            refine z_goto (tgt := 20) C dX5_decided_72 (by decide) ?_
            exact z_sub C [2, 3, 4, 1, 0] rfl (ih v2 v4 v6 (v6 + 1) hF)
set_option maxHeartbeats 4000000 in
set_option maxRecDepth 100000 in
theorem c_X5_decided (l : Launch) (D : va_G) (cI cJ cZ : ClassId) (a5 : Nat → Nat) (P : SS) (x1 : Int32) (x2 : Int32) (u : Int32) (hF : f_X5_decided P x1 x2 = some u) : zM l yX5_decided wsX5_decided ({ frames := 2, cells := 0, slots := 0, locals := 50 }) D (zTy cI cJ cZ) [.ref (a5 0), .int x1, .int x2] (zwX5 cI cJ cZ a5 P) (some (.int u)) (zwX5 cI cJ cZ a5 P) := by
  refine z_body (cc := cX5_decided) (maxL := 7) (rty := (some .int)) (own := RX5) (lv := [(0, .ref (a5 0)), (1, .int x1), (2, .int x2)]) (by decide +kernel) rfl rfl (Nat.le_of_ble_eq_true rfl) rfl (fun p e s m args below meth c A C => ?_)
  refine z_iload_n C dX5_decided_0 rfl 1 rfl ?_
  refine z_bipush (v := 6) C dX5_decided_1 (by decide) ?_
  refine z_imul C dX5_decided_3 ?_
  refine z_istore_n (lv' := [(3, .int (x1 * 6)), (0, .ref (a5 0)), (1, .int x1), (2, .int x2)]) C dX5_decided_4 rfl (by decide) rfl ?_
  refine z_iload_n C dX5_decided_5 rfl 0 rfl ?_
  refine z_aload_n C dX5_decided_6 rfl 1 rfl ?_
  refine z_iload_n C dX5_decided_7 rfl 2 rfl ?_
  obtain ⟨r1, er1, hF⟩ := zbd hF
  refine z_callV (n := 1) (As := [.int x1]) (ws' := (zwX5 cI cJ cZ a5 P)) C (c_X5_rulesOf l D cI cJ cZ a5 P x1 r1 er1) gX5_decided_X5_rulesOf rfl rfl rfl (by decide +kernel) ⟨Nat.le_of_ble_eq_true rfl, Nat.le_of_ble_eq_true rfl⟩ ⟨Nat.zero_le _, Nat.zero_le _⟩ 0 rfl rfl [] [] rfl rfl rfl rfl (Nat.le_of_ble_eq_true rfl) dX5_decided_8 ?_
  refine z_iadd C dX5_decided_11 ?_
  refine z_istore (lv' := [(4, .int ((x1 * 6) + r1)), (3, .int (x1 * 6)), (0, .ref (a5 0)), (1, .int x1), (2, .int x2)]) C dX5_decided_12 (by decide) rfl ?_
  refine z_iconst (v := (-1)) C dX5_decided_14 (by decide) ?_
  refine z_istore (lv' := [(5, .int (-1)), (4, .int ((x1 * 6) + r1)), (3, .int (x1 * 6)), (0, .ref (a5 0)), (1, .int x1), (2, .int x2)]) C dX5_decided_15 (by decide) rfl ?_
  refine z_iload_n C dX5_decided_17 rfl 2 rfl ?_
  refine z_istore (lv' := [(6, .int (x1 * 6)), (5, .int (-1)), (4, .int ((x1 * 6) + r1)), (3, .int (x1 * 6)), (0, .ref (a5 0)), (1, .int x1), (2, .int x2)]) C dX5_decided_18 (by decide) rfl ?_
  exact z_sub C [4, 6, 2, 1, 0] rfl (c_X5_decided_j20 l D cI cJ cZ a5 P u C 600 x2 ((x1 * 6) + r1) (-1) (x1 * 6) hF)
theorem kX5_together_25 : Cond.fieldLink RX5 25 "SecretBroker$Policies" "count" "I" ∈ wsX5_together := by decide +kernel
theorem hX5_together_X5 : ∀ w ∈ wsX50, w ∈ wsX5_together := by decide +kernel
set_option maxHeartbeats 4000000 in
set_option maxRecDepth 100000 in
theorem c_X5_together_j5 (l : Launch) (D : va_G) (cI cJ cZ : ClassId) (a5 : Nat → Nat) (P : SS) (u : Int32) {p : Program} {e : Env} {s : State} {m : MethodId} {args : Array Value} {below : List Frame} {meth : Method} {c : Code} {A : Nat → Prop} (C : zC p s m args meth c cX5_together 5 (some .int) RX5 wsX5_together D (zTy cI cJ cZ) A s.heap) : ∀ (n : Nat) (v1 : Int32) (v2 : Int32) (v3 : Int32) (v4 : Int32), f_X5_together_5 P n v1 v2 v3 v4 = some u → zW p l e { frames := 3, cells := 0, slots := 0, locals := 76 } s m args below meth c 5 D A s.heap 0 0 (MQ below (zQ D (zTy cI cJ cZ) (some (.int u)) (zwX5 cI cJ cZ a5 P) A) args s 0 0 A) (zwX5 cI cJ cZ a5 P) [(0, .ref (a5 0)), (1, .int v1), (2, .int v2), (3, .int v3), (4, .int v4)] 5 [] := by
  intro n
  induction n with
  | zero => intro v1 v2 v3 v4 hF; exact absurd (show none = some u from hF) (fun q => nomatch q)
  | succ n ih =>
    intro v1 v2 v3 v4 hF
    refine z_iload C dX5_together_5 4 rfl ?_
    refine z_aload_n C dX5_together_7 rfl 0 rfl ?_
    refine z_get (ref := "SecretBroker$Policies") (v := .int (P 4 0)) C hX5_together_X5 0 rfl rfl 4 (by decide) kX5_together_25 (fun _ h9 => h9) rfl dX5_together_8 ?_
    refine z_icmp_ge (tgt := 39) C dX5_together_11 (by decide) (fun c1 => ?_) (fun c1 => ?_)
    · have hF := zif hF c1
      refine z_iload_n C dX5_together_39 rfl 3 rfl ?_
      have hu := Option.some.inj hF
      subst hu
      exact z_iret C dX5_together_40 rfl rfl
    · have hF := zelse hF c1
      refine z_iload_n C dX5_together_14 rfl 1 rfl ?_
      refine z_iload C dX5_together_15 4 rfl ?_
      refine z_ishr C dX5_together_17 ?_
      refine z_iconst (v := 1) C dX5_together_18 (by decide) ?_
      refine z_iand C dX5_together_19 ?_
      refine z_if_eq (tgt := 33) C dX5_together_20 (by decide) (fun c2 => ?_) (fun c2 => ?_)
      · have hF := zif hF c2
        refine z_iinc (v := (v4 + 1)) (lv' := [(4, .int (v4 + 1)), (0, .ref (a5 0)), (1, .int v1), (2, .int v2), (3, .int v3)]) C dX5_together_33 4 rfl rfl (by decide) rfl ?_
        refine z_goto (tgt := 5) C dX5_together_36 (by decide) ?_
        exact z_sub C [1, 2, 3, 4, 0] rfl (ih v1 v2 v3 (v4 + 1) hF)
      · have hF := zelse hF c2
        refine z_iload_n C dX5_together_23 rfl 3 rfl ?_
        refine z_aload_n C dX5_together_24 rfl 0 rfl ?_
        refine z_iload C dX5_together_25 4 rfl ?_
        refine z_iload_n C dX5_together_27 rfl 2 rfl ?_
        obtain ⟨r3, er3, hF⟩ := zbd hF
        refine z_callV (n := 2) (As := [.int v4, .int v2]) (ws' := (zwX5 cI cJ cZ a5 P)) C (c_X5_decided l D cI cJ cZ a5 P v4 v2 r3 er3) gX5_together_X5_decided rfl rfl rfl (by decide +kernel) ⟨Nat.le_of_ble_eq_true rfl, Nat.le_of_ble_eq_true rfl⟩ ⟨Nat.zero_le _, Nat.zero_le _⟩ 0 rfl rfl [] [] rfl rfl rfl rfl (Nat.le_of_ble_eq_true rfl) dX5_together_28 ?_
        refine z_ior C dX5_together_31 ?_
        refine z_istore_n (lv' := [(3, .int (v3 ||| r3)), (0, .ref (a5 0)), (1, .int v1), (2, .int v2), (4, .int v4)]) C dX5_together_32 rfl (by decide) rfl ?_
        refine z_iinc (v := (v4 + 1)) (lv' := [(4, .int (v4 + 1)), (3, .int (v3 ||| r3)), (0, .ref (a5 0)), (1, .int v1), (2, .int v2)]) C dX5_together_33 4 rfl rfl (by decide) rfl ?_
        refine z_goto (tgt := 5) C dX5_together_36 (by decide) ?_
        exact z_sub C [2, 3, 4, 1, 0] rfl (ih v1 v2 (v3 ||| r3) (v4 + 1) hF)
set_option maxHeartbeats 4000000 in
set_option maxRecDepth 100000 in
theorem c_X5_together (l : Launch) (D : va_G) (cI cJ cZ : ClassId) (a5 : Nat → Nat) (P : SS) (x1 : Int32) (x2 : Int32) (u : Int32) (hF : f_X5_together P x1 x2 = some u) : zM l yX5_together wsX5_together ({ frames := 3, cells := 0, slots := 0, locals := 76 }) D (zTy cI cJ cZ) [.ref (a5 0), .int x1, .int x2] (zwX5 cI cJ cZ a5 P) (some (.int u)) (zwX5 cI cJ cZ a5 P) := by
  refine z_body (cc := cX5_together) (maxL := 5) (rty := (some .int)) (own := RX5) (lv := [(0, .ref (a5 0)), (1, .int x1), (2, .int x2)]) (by decide +kernel) rfl rfl (Nat.le_of_ble_eq_true rfl) rfl (fun p e s m args below meth c A C => ?_)
  refine z_iconst (v := 0) C dX5_together_0 (by decide) ?_
  refine z_istore_n (lv' := [(3, .int 0), (0, .ref (a5 0)), (1, .int x1), (2, .int x2)]) C dX5_together_1 rfl (by decide) rfl ?_
  refine z_iconst (v := 0) C dX5_together_2 (by decide) ?_
  refine z_istore (lv' := [(4, .int 0), (3, .int 0), (0, .ref (a5 0)), (1, .int x1), (2, .int x2)]) C dX5_together_3 (by decide) rfl ?_
  exact z_sub C [2, 3, 4, 1, 0] rfl (c_X5_together_j5 l D cI cJ cZ a5 P u C 600 x1 x2 0 0 hF)
theorem kX6_describe_9 : Cond.fieldLink RX6 9 "SecretBroker$Tokens" "parents" "[I" ∈ wsX6_describe := by decide +kernel
theorem kX6_describe_15 : Cond.fieldLink RX6 15 "SecretBroker$Tokens" "policySets" "[I" ∈ wsX6_describe := by decide +kernel
theorem kX6_describe_18 : Cond.fieldLink RX6 18 "SecretBroker$Tokens" "uses" "[I" ∈ wsX6_describe := by decide +kernel
theorem hX6_describe_X6 : ∀ w ∈ wsX60, w ∈ wsX6_describe := by decide +kernel
set_option maxHeartbeats 4000000 in
set_option maxRecDepth 100000 in
theorem c_X6_describe (l : Launch) (D : va_G) (cI cJ cZ : ClassId) (a6 : Nat → Nat) (T : SS) (x1 : Int32) (x2 : Int32) (x3 : Int32) (x4 : Int32) (u : SS) (hF : f_X6_describe T x1 x2 x3 x4 = some u) : zM l yX6_describe wsX6_describe ({ frames := 1, cells := 0, slots := 0, locals := 21 }) D (zTy cI cJ cZ) [.ref (a6 0), .int x1, .int x2, .int x3, .int x4] (zwX6 cI cJ cZ a6 T) none (zwX6 cI cJ cZ a6 u) := by
  refine z_body (cc := cX6_describe) (maxL := 5) (rty := none) (own := RX6) (lv := [(0, .ref (a6 0)), (1, .int x1), (2, .int x2), (3, .int x3), (4, .int x4)]) (by decide +kernel) rfl rfl (Nat.le_of_ble_eq_true rfl) rfl (fun p e s m args below meth c A C => ?_)
  refine z_aload_n C dX6_describe_0 rfl 0 rfl ?_
  refine z_iload_n C dX6_describe_1 rfl 1 rfl ?_
  obtain ⟨r1, er1, hF⟩ := zbd hF
  refine z_callU (n := 1) (As := [.int x1]) (ws' := (zwX6 cI cJ cZ a6 T)) C (c_X2_has_6 l D cI cJ cZ a6 T x1 r1 er1) gX6_describe_X2_has_u29X6 rfl rfl rfl rfl (by decide +kernel) ⟨Nat.le_of_ble_eq_true rfl, Nat.le_of_ble_eq_true rfl⟩ ⟨Nat.zero_le _, Nat.zero_le _⟩ 0 rfl rfl [] [] rfl rfl rfl rfl (Nat.le_of_ble_eq_true rfl) dX6_describe_2 ?_
  refine z_if_eq (tgt := 30) C dX6_describe_5 (by decide) (fun c2 => ?_) (fun c2 => ?_)
  · have hF := zif hF c2
    have hu := Option.some.inj hF
    subst hu
    exact z_vret C dX6_describe_30 rfl
  · have hF := zelse hF c2
    refine z_aload_n C dX6_describe_8 rfl 0 rfl ?_
    refine z_get (ref := "SecretBroker$Tokens") (v := .ref (a6 5)) C hX6_describe_X6 0 rfl rfl 6 (by decide) kX6_describe_9 (fun _ h9 => h9) rfl dX6_describe_9 ?_
    refine z_iload_n C dX6_describe_12 rfl 1 rfl ?_
    refine z_iload_n C dX6_describe_13 rfl 2 rfl ?_
    obtain ⟨g3, hF⟩ := zix_some hF
    refine z_iast (ws' := (zwX6 cI cJ cZ a6 (za T 6 x1 x2))) C g3 5 rfl rfl dX6_describe_14 (za_row T 6 x1 x2) (zr_X6_6 cI cJ cZ a6 T x1 x2) ?_
    refine z_aload_n C dX6_describe_15 rfl 0 rfl ?_
    refine z_get (ref := "SecretBroker$Tokens") (v := .ref (a6 6)) C hX6_describe_X6 0 rfl rfl 7 (by decide) kX6_describe_15 (fun _ h9 => h9) rfl dX6_describe_16 ?_
    refine z_iload_n C dX6_describe_19 rfl 1 rfl ?_
    refine z_iload_n C dX6_describe_20 rfl 3 rfl ?_
    obtain ⟨g4, hF⟩ := zix_some hF
    refine z_iast (ws' := (zwX6 cI cJ cZ a6 (za (za T 6 x1 x2) 7 x1 x3))) C g4 6 rfl rfl dX6_describe_21 (za_row (za T 6 x1 x2) 7 x1 x3) (zr_X6_7 cI cJ cZ a6 (za T 6 x1 x2) x1 x3) ?_
    refine z_aload_n C dX6_describe_22 rfl 0 rfl ?_
    refine z_get (ref := "SecretBroker$Tokens") (v := .ref (a6 7)) C hX6_describe_X6 0 rfl rfl 8 (by decide) kX6_describe_18 (fun _ h9 => h9) rfl dX6_describe_23 ?_
    refine z_iload_n C dX6_describe_26 rfl 1 rfl ?_
    refine z_iload C dX6_describe_27 4 rfl ?_
    obtain ⟨g5, hF⟩ := zix_some hF
    refine z_iast (ws' := (zwX6 cI cJ cZ a6 (za (za (za T 6 x1 x2) 7 x1 x3) 8 x1 x4))) C g5 7 rfl rfl dX6_describe_29 (za_row (za (za T 6 x1 x2) 7 x1 x3) 8 x1 x4) (zr_X6_8 cI cJ cZ a6 (za (za T 6 x1 x2) 7 x1 x3) x1 x4) ?_
    have hu := Option.some.inj hF
    subst hu
    exact z_vret C dX6_describe_30 rfl
theorem kX6_parentAt_9 : Cond.fieldLink RX6 9 "SecretBroker$Tokens" "parents" "[I" ∈ wsX6_parentAt := by decide +kernel
theorem hX6_parentAt_X6 : ∀ w ∈ wsX60, w ∈ wsX6_parentAt := by decide +kernel
set_option maxHeartbeats 4000000 in
set_option maxRecDepth 100000 in
theorem c_X6_parentAt (l : Launch) (D : va_G) (cI cJ cZ : ClassId) (a6 : Nat → Nat) (T : SS) (x1 : Int32) (u : Int32) (hF : f_X6_parentAt T x1 = some u) : zM l yX6_parentAt wsX6_parentAt ({ frames := 1, cells := 0, slots := 0, locals := 21 }) D (zTy cI cJ cZ) [.ref (a6 0), .int x1] (zwX6 cI cJ cZ a6 T) (some (.int u)) (zwX6 cI cJ cZ a6 T) := by
  refine z_body (cc := cX6_parentAt) (maxL := 2) (rty := (some .int)) (own := RX6) (lv := [(0, .ref (a6 0)), (1, .int x1)]) (by decide +kernel) rfl rfl (Nat.le_of_ble_eq_true rfl) rfl (fun p e s m args below meth c A C => ?_)
  refine z_aload_n C dX6_parentAt_0 rfl 0 rfl ?_
  refine z_iload_n C dX6_parentAt_1 rfl 1 rfl ?_
  obtain ⟨r1, er1, hF⟩ := zbd hF
  refine z_callU (n := 1) (As := [.int x1]) (ws' := (zwX6 cI cJ cZ a6 T)) C (c_X2_has_6 l D cI cJ cZ a6 T x1 r1 er1) gX6_parentAt_X2_has_u29X6 rfl rfl rfl rfl (by decide +kernel) ⟨Nat.le_of_ble_eq_true rfl, Nat.le_of_ble_eq_true rfl⟩ ⟨Nat.zero_le _, Nat.zero_le _⟩ 0 rfl rfl [] [] rfl rfl rfl rfl (Nat.le_of_ble_eq_true rfl) dX6_parentAt_2 ?_
  refine z_if_eq (tgt := 17) C dX6_parentAt_5 (by decide) (fun c2 => ?_) (fun c2 => ?_)
  · have hF := zif hF c2
    refine z_iconst (v := (-1)) C dX6_parentAt_17 (by decide) ?_
    have hu := Option.some.inj hF
    subst hu
    exact z_iret C dX6_parentAt_18 rfl rfl
  · have hF := zelse hF c2
    refine z_aload_n C dX6_parentAt_8 rfl 0 rfl ?_
    refine z_get (ref := "SecretBroker$Tokens") (v := .ref (a6 5)) C hX6_parentAt_X6 0 rfl rfl 6 (by decide) kX6_parentAt_9 (fun _ h9 => h9) rfl dX6_parentAt_9 ?_
    refine z_iload_n C dX6_parentAt_12 rfl 1 rfl ?_
    obtain ⟨g3, hF⟩ := zix_some hF
    refine z_iald (v := ((T 6) x1.toNatClampNeg)) C g3 5 rfl rfl rfl dX6_parentAt_13 ?_
    refine z_goto (tgt := 18) C dX6_parentAt_14 (by decide) ?_
    have hu := Option.some.inj hF
    subst hu
    exact z_iret C dX6_parentAt_18 rfl rfl
theorem kX6_policiesAt_15 : Cond.fieldLink RX6 15 "SecretBroker$Tokens" "policySets" "[I" ∈ wsX6_policiesAt := by decide +kernel
theorem hX6_policiesAt_X6 : ∀ w ∈ wsX60, w ∈ wsX6_policiesAt := by decide +kernel
set_option maxHeartbeats 4000000 in
set_option maxRecDepth 100000 in
theorem c_X6_policiesAt (l : Launch) (D : va_G) (cI cJ cZ : ClassId) (a6 : Nat → Nat) (T : SS) (x1 : Int32) (u : Int32) (hF : f_X6_policiesAt T x1 = some u) : zM l yX6_policiesAt wsX6_policiesAt ({ frames := 1, cells := 0, slots := 0, locals := 21 }) D (zTy cI cJ cZ) [.ref (a6 0), .int x1] (zwX6 cI cJ cZ a6 T) (some (.int u)) (zwX6 cI cJ cZ a6 T) := by
  refine z_body (cc := cX6_policiesAt) (maxL := 2) (rty := (some .int)) (own := RX6) (lv := [(0, .ref (a6 0)), (1, .int x1)]) (by decide +kernel) rfl rfl (Nat.le_of_ble_eq_true rfl) rfl (fun p e s m args below meth c A C => ?_)
  refine z_aload_n C dX6_policiesAt_0 rfl 0 rfl ?_
  refine z_iload_n C dX6_policiesAt_1 rfl 1 rfl ?_
  obtain ⟨r1, er1, hF⟩ := zbd hF
  refine z_callU (n := 1) (As := [.int x1]) (ws' := (zwX6 cI cJ cZ a6 T)) C (c_X2_has_6 l D cI cJ cZ a6 T x1 r1 er1) gX6_policiesAt_X2_has_u29X6 rfl rfl rfl rfl (by decide +kernel) ⟨Nat.le_of_ble_eq_true rfl, Nat.le_of_ble_eq_true rfl⟩ ⟨Nat.zero_le _, Nat.zero_le _⟩ 0 rfl rfl [] [] rfl rfl rfl rfl (Nat.le_of_ble_eq_true rfl) dX6_policiesAt_2 ?_
  refine z_if_eq (tgt := 17) C dX6_policiesAt_5 (by decide) (fun c2 => ?_) (fun c2 => ?_)
  · have hF := zif hF c2
    refine z_iconst (v := 0) C dX6_policiesAt_17 (by decide) ?_
    have hu := Option.some.inj hF
    subst hu
    exact z_iret C dX6_policiesAt_18 rfl rfl
  · have hF := zelse hF c2
    refine z_aload_n C dX6_policiesAt_8 rfl 0 rfl ?_
    refine z_get (ref := "SecretBroker$Tokens") (v := .ref (a6 6)) C hX6_policiesAt_X6 0 rfl rfl 7 (by decide) kX6_policiesAt_15 (fun _ h9 => h9) rfl dX6_policiesAt_9 ?_
    refine z_iload_n C dX6_policiesAt_12 rfl 1 rfl ?_
    obtain ⟨g3, hF⟩ := zix_some hF
    refine z_iald (v := ((T 7) x1.toNatClampNeg)) C g3 6 rfl rfl rfl dX6_policiesAt_13 ?_
    refine z_goto (tgt := 18) C dX6_policiesAt_14 (by decide) ?_
    have hu := Option.some.inj hF
    subst hu
    exact z_iret C dX6_policiesAt_18 rfl rfl
theorem kX6_usesAt_18 : Cond.fieldLink RX6 18 "SecretBroker$Tokens" "uses" "[I" ∈ wsX6_usesAt := by decide +kernel
theorem hX6_usesAt_X6 : ∀ w ∈ wsX60, w ∈ wsX6_usesAt := by decide +kernel
set_option maxHeartbeats 4000000 in
set_option maxRecDepth 100000 in
theorem c_X6_usesAt (l : Launch) (D : va_G) (cI cJ cZ : ClassId) (a6 : Nat → Nat) (T : SS) (x1 : Int32) (u : Int32) (hF : f_X6_usesAt T x1 = some u) : zM l yX6_usesAt wsX6_usesAt ({ frames := 1, cells := 0, slots := 0, locals := 21 }) D (zTy cI cJ cZ) [.ref (a6 0), .int x1] (zwX6 cI cJ cZ a6 T) (some (.int u)) (zwX6 cI cJ cZ a6 T) := by
  refine z_body (cc := cX6_usesAt) (maxL := 2) (rty := (some .int)) (own := RX6) (lv := [(0, .ref (a6 0)), (1, .int x1)]) (by decide +kernel) rfl rfl (Nat.le_of_ble_eq_true rfl) rfl (fun p e s m args below meth c A C => ?_)
  refine z_aload_n C dX6_usesAt_0 rfl 0 rfl ?_
  refine z_iload_n C dX6_usesAt_1 rfl 1 rfl ?_
  obtain ⟨r1, er1, hF⟩ := zbd hF
  refine z_callU (n := 1) (As := [.int x1]) (ws' := (zwX6 cI cJ cZ a6 T)) C (c_X2_has_6 l D cI cJ cZ a6 T x1 r1 er1) gX6_usesAt_X2_has_u29X6 rfl rfl rfl rfl (by decide +kernel) ⟨Nat.le_of_ble_eq_true rfl, Nat.le_of_ble_eq_true rfl⟩ ⟨Nat.zero_le _, Nat.zero_le _⟩ 0 rfl rfl [] [] rfl rfl rfl rfl (Nat.le_of_ble_eq_true rfl) dX6_usesAt_2 ?_
  refine z_if_eq (tgt := 17) C dX6_usesAt_5 (by decide) (fun c2 => ?_) (fun c2 => ?_)
  · have hF := zif hF c2
    refine z_iconst (v := (-1)) C dX6_usesAt_17 (by decide) ?_
    have hu := Option.some.inj hF
    subst hu
    exact z_iret C dX6_usesAt_18 rfl rfl
  · have hF := zelse hF c2
    refine z_aload_n C dX6_usesAt_8 rfl 0 rfl ?_
    refine z_get (ref := "SecretBroker$Tokens") (v := .ref (a6 7)) C hX6_usesAt_X6 0 rfl rfl 8 (by decide) kX6_usesAt_18 (fun _ h9 => h9) rfl dX6_usesAt_9 ?_
    refine z_iload_n C dX6_usesAt_12 rfl 1 rfl ?_
    obtain ⟨g3, hF⟩ := zix_some hF
    refine z_iald (v := ((T 8) x1.toNatClampNeg)) C g3 7 rfl rfl rfl dX6_usesAt_13 ?_
    refine z_goto (tgt := 18) C dX6_usesAt_14 (by decide) ?_
    have hu := Option.some.inj hF
    subst hu
    exact z_iret C dX6_usesAt_18 rfl rfl
theorem kX6_takeUse_18 : Cond.fieldLink RX6 18 "SecretBroker$Tokens" "uses" "[I" ∈ wsX6_takeUse := by decide +kernel
theorem hX6_takeUse_X6 : ∀ w ∈ wsX60, w ∈ wsX6_takeUse := by decide +kernel
set_option maxHeartbeats 4000000 in
set_option maxRecDepth 100000 in
theorem c_X6_takeUse (l : Launch) (D : va_G) (cI cJ cZ : ClassId) (a6 : Nat → Nat) (T : SS) (x1 : Int32) (u : SS) (hF : f_X6_takeUse T x1 = some u) : zM l yX6_takeUse wsX6_takeUse ({ frames := 2, cells := 0, slots := 0, locals := 42 }) D (zTy cI cJ cZ) [.ref (a6 0), .int x1] (zwX6 cI cJ cZ a6 T) none (zwX6 cI cJ cZ a6 u) := by
  refine z_body (cc := cX6_takeUse) (maxL := 2) (rty := none) (own := RX6) (lv := [(0, .ref (a6 0)), (1, .int x1)]) (by decide +kernel) rfl rfl (Nat.le_of_ble_eq_true rfl) rfl (fun p e s m args below meth c A C => ?_)
  refine z_aload_n C dX6_takeUse_0 rfl 0 rfl ?_
  refine z_iload_n C dX6_takeUse_1 rfl 1 rfl ?_
  obtain ⟨r1, er1, hF⟩ := zbd hF
  refine z_callU (n := 1) (As := [.int x1]) (ws' := (zwX6 cI cJ cZ a6 T)) C (c_X2_isOn_6 l D cI cJ cZ a6 T x1 r1 er1) gX6_takeUse_X2_isOn_u33X6 rfl rfl rfl rfl (by decide +kernel) ⟨Nat.le_of_ble_eq_true rfl, Nat.le_of_ble_eq_true rfl⟩ ⟨Nat.zero_le _, Nat.zero_le _⟩ 0 rfl rfl [] [] rfl rfl rfl rfl (Nat.le_of_ble_eq_true rfl) dX6_takeUse_2 ?_
  refine z_if_eq (tgt := 27) C dX6_takeUse_5 (by decide) (fun c2 => ?_) (fun c2 => ?_)
  · have hF := zif hF c2
    have hu := Option.some.inj hF
    subst hu
    exact z_vret C dX6_takeUse_27 rfl
  · have hF := zelse hF c2
    refine z_aload_n C dX6_takeUse_8 rfl 0 rfl ?_
    refine z_get (ref := "SecretBroker$Tokens") (v := .ref (a6 7)) C hX6_takeUse_X6 0 rfl rfl 8 (by decide) kX6_takeUse_18 (fun _ h9 => h9) rfl dX6_takeUse_9 ?_
    refine z_iload_n C dX6_takeUse_12 rfl 1 rfl ?_
    obtain ⟨g3, hF⟩ := zix_some hF
    refine z_iald (v := ((T 8) x1.toNatClampNeg)) C g3 7 rfl rfl rfl dX6_takeUse_13 ?_
    refine z_if_le (tgt := 27) C dX6_takeUse_14 (by decide) (fun c4 => ?_) (fun c4 => ?_)
    · have hF := zif hF c4
      have hu := Option.some.inj hF
      subst hu
      exact z_vret C dX6_takeUse_27 rfl
    · have hF := zelse hF c4
      refine z_aload_n C dX6_takeUse_17 rfl 0 rfl ?_
      refine z_get (ref := "SecretBroker$Tokens") (v := .ref (a6 7)) C hX6_takeUse_X6 0 rfl rfl 8 (by decide) kX6_takeUse_18 (fun _ h9 => h9) rfl dX6_takeUse_18 ?_
      refine z_iload_n C dX6_takeUse_21 rfl 1 rfl ?_
      refine z_dup2 C dX6_takeUse_22 rfl rfl ?_
      obtain ⟨g5, hF⟩ := zix_some hF
      refine z_iald (v := ((T 8) x1.toNatClampNeg)) C g5 7 rfl rfl rfl dX6_takeUse_23 ?_
      refine z_iconst (v := 1) C dX6_takeUse_24 (by decide) ?_
      refine z_isub C dX6_takeUse_25 ?_
      obtain ⟨g6, hF⟩ := zix_some hF
      refine z_iast (ws' := (zwX6 cI cJ cZ a6 (za T 8 x1 (((T 8) x1.toNatClampNeg) - 1)))) C g6 7 rfl rfl dX6_takeUse_26 (za_row T 8 x1 (((T 8) x1.toNatClampNeg) - 1)) (zr_X6_8 cI cJ cZ a6 T x1 (((T 8) x1.toNatClampNeg) - 1)) ?_
      have hu := Option.some.inj hF
      subst hu
      exact z_vret C dX6_takeUse_27 rfl
theorem kX6_freeChildren_9 : Cond.fieldLink RX6 9 "SecretBroker$Tokens" "parents" "[I" ∈ wsX6_freeChildren := by decide +kernel
theorem hX6_freeChildren_X6 : ∀ w ∈ wsX60, w ∈ wsX6_freeChildren := by decide +kernel
set_option maxHeartbeats 4000000 in
set_option maxRecDepth 100000 in
theorem c_X6_freeChildren_j2 (l : Launch) (D : va_G) (cI cJ cZ : ClassId) (a6 : Nat → Nat) (T : SS) (u : SS) {p : Program} {e : Env} {s : State} {m : MethodId} {args : Array Value} {below : List Frame} {meth : Method} {c : Code} {A : Nat → Prop} (C : zC p s m args meth c cX6_freeChildren 3 none RX6 wsX6_freeChildren D (zTy cI cJ cZ) A s.heap) : ∀ (n : Nat) (Tc : SS) (v1 : Int32) (v2 : Int32), f_X6_freeChildren_2 n Tc v1 v2 = some u → zW p l e { frames := 2, cells := 0, slots := 0, locals := 42 } s m args below meth c 3 D A s.heap 0 0 (MQ below (zQ D (zTy cI cJ cZ) none (zwX6 cI cJ cZ a6 u) A) args s 0 0 A) (zwX6 cI cJ cZ a6 Tc) [(0, .ref (a6 0)), (1, .int v1), (2, .int v2)] 2 [] := by
  intro n
  induction n with
  | zero => intro Tc v1 v2 hF; exact absurd (show none = some u from hF) (fun q => nomatch q)
  | succ n ih =>
    intro Tc v1 v2 hF
    refine z_iload_n C dX6_freeChildren_2 rfl 2 rfl ?_
    refine z_aload_n C dX6_freeChildren_3 rfl 0 rfl ?_
    obtain ⟨r1, er1, hF⟩ := zbd hF
    refine z_callU (n := 0) (As := []) (ws' := (zwX6 cI cJ cZ a6 Tc)) C (c_X2_made_6 l D cI cJ cZ a6 Tc r1 er1) gX6_freeChildren_X2_made_u36X6 rfl rfl rfl rfl (by decide +kernel) ⟨Nat.le_of_ble_eq_true rfl, Nat.le_of_ble_eq_true rfl⟩ ⟨Nat.zero_le _, Nat.zero_le _⟩ 0 rfl rfl [] [] rfl rfl rfl rfl (Nat.le_of_ble_eq_true rfl) dX6_freeChildren_4 ?_
    refine z_icmp_ge (tgt := 41) C dX6_freeChildren_7 (by decide) (fun c2 => ?_) (fun c2 => ?_)
    · have hF := zif hF c2
      have hu := Option.some.inj hF
      subst hu
      exact z_vret C dX6_freeChildren_41 rfl
    · have hF := zelse hF c2
      refine z_aload_n C dX6_freeChildren_10 rfl 0 rfl ?_
      refine z_get (ref := "SecretBroker$Tokens") (v := .ref (a6 5)) C hX6_freeChildren_X6 0 rfl rfl 6 (by decide) kX6_freeChildren_9 (fun _ h9 => h9) rfl dX6_freeChildren_11 ?_
      refine z_iload_n C dX6_freeChildren_14 rfl 2 rfl ?_
      obtain ⟨g3, hF⟩ := zix_some hF
      refine z_iald (v := ((Tc 6) v2.toNatClampNeg)) C g3 5 rfl rfl rfl dX6_freeChildren_15 ?_
      refine z_iload_n C dX6_freeChildren_16 rfl 1 rfl ?_
      refine z_icmp_ne (tgt := 35) C dX6_freeChildren_17 (by decide) (fun c4 => ?_) (fun c4 => ?_)
      · have hF := zelse hF c4
        refine z_iinc (v := (v2 + 1)) (lv' := [(2, .int (v2 + 1)), (0, .ref (a6 0)), (1, .int v1)]) C dX6_freeChildren_35 2 rfl rfl (by decide) rfl ?_
        refine z_goto (tgt := 2) C dX6_freeChildren_38 (by decide) ?_
        exact z_sub C [1, 2, 0] rfl (ih Tc v1 (v2 + 1) hF)
      · have hF := zif hF c4
        refine z_aload_n C dX6_freeChildren_20 rfl 0 rfl ?_
        refine z_iload_n C dX6_freeChildren_21 rfl 2 rfl ?_
        obtain ⟨r5, er5, hF⟩ := zbd hF
        refine z_callU (n := 1) (As := [.int v2]) (ws' := (zwX6 cI cJ cZ a6 Tc)) C (c_X2_isOn_6 l D cI cJ cZ a6 Tc v2 r5 er5) gX6_freeChildren_X2_isOn_u33X6 rfl rfl rfl rfl (by decide +kernel) ⟨Nat.le_of_ble_eq_true rfl, Nat.le_of_ble_eq_true rfl⟩ ⟨Nat.zero_le _, Nat.zero_le _⟩ 0 rfl rfl [] [] rfl rfl rfl rfl (Nat.le_of_ble_eq_true rfl) dX6_freeChildren_22 ?_
        refine z_if_eq (tgt := 35) C dX6_freeChildren_25 (by decide) (fun c6 => ?_) (fun c6 => ?_)
        · have hF := zif hF c6
          refine z_iinc (v := (v2 + 1)) (lv' := [(2, .int (v2 + 1)), (0, .ref (a6 0)), (1, .int v1)]) C dX6_freeChildren_35 2 rfl rfl (by decide) rfl ?_
          refine z_goto (tgt := 2) C dX6_freeChildren_38 (by decide) ?_
          exact z_sub C [1, 2, 0] rfl (ih Tc v1 (v2 + 1) hF)
        · have hF := zelse hF c6
          refine z_aload_n C dX6_freeChildren_28 rfl 0 rfl ?_
          refine z_get (ref := "SecretBroker$Tokens") (v := .ref (a6 5)) C hX6_freeChildren_X6 0 rfl rfl 6 (by decide) kX6_freeChildren_9 (fun _ h9 => h9) rfl dX6_freeChildren_29 ?_
          refine z_iload_n C dX6_freeChildren_32 rfl 2 rfl ?_
          refine z_iconst (v := (-1)) C dX6_freeChildren_33 (by decide) ?_
          obtain ⟨g7, hF⟩ := zix_some hF
          refine z_iast (ws' := (zwX6 cI cJ cZ a6 (za Tc 6 v2 (-1)))) C g7 5 rfl rfl dX6_freeChildren_34 (za_row Tc 6 v2 (-1)) (zr_X6_6 cI cJ cZ a6 Tc v2 (-1)) ?_
          refine z_iinc (v := (v2 + 1)) (lv' := [(2, .int (v2 + 1)), (0, .ref (a6 0)), (1, .int v1)]) C dX6_freeChildren_35 2 rfl rfl (by decide) rfl ?_
          refine z_goto (tgt := 2) C dX6_freeChildren_38 (by decide) ?_
          exact z_sub C [1, 2, 0] rfl (ih (za Tc 6 v2 (-1)) v1 (v2 + 1) hF)
set_option maxHeartbeats 4000000 in
set_option maxRecDepth 100000 in
theorem c_X6_freeChildren (l : Launch) (D : va_G) (cI cJ cZ : ClassId) (a6 : Nat → Nat) (T : SS) (x1 : Int32) (u : SS) (hF : f_X6_freeChildren T x1 = some u) : zM l yX6_freeChildren wsX6_freeChildren ({ frames := 2, cells := 0, slots := 0, locals := 42 }) D (zTy cI cJ cZ) [.ref (a6 0), .int x1] (zwX6 cI cJ cZ a6 T) none (zwX6 cI cJ cZ a6 u) := by
  refine z_body (cc := cX6_freeChildren) (maxL := 3) (rty := none) (own := RX6) (lv := [(0, .ref (a6 0)), (1, .int x1)]) (by decide +kernel) rfl rfl (Nat.le_of_ble_eq_true rfl) rfl (fun p e s m args below meth c A C => ?_)
  refine z_iconst (v := 0) C dX6_freeChildren_0 (by decide) ?_
  refine z_istore_n (lv' := [(2, .int 0), (0, .ref (a6 0)), (1, .int x1)]) C dX6_freeChildren_1 rfl (by decide) rfl ?_
  exact z_sub C [1, 2, 0] rfl (c_X6_freeChildren_j2 l D cI cJ cZ a6 T u C 600 T x1 0 hF)
theorem kX6_endBelowEnded_9 : Cond.fieldLink RX6 9 "SecretBroker$Tokens" "parents" "[I" ∈ wsX6_endBelowEnded := by decide +kernel
theorem hX6_endBelowEnded_X6 : ∀ w ∈ wsX60, w ∈ wsX6_endBelowEnded := by decide +kernel
set_option maxHeartbeats 4000000 in
set_option maxRecDepth 100000 in
theorem c_X6_endBelowEnded_j4 (l : Launch) (D : va_G) (cI cJ cZ : ClassId) (a6 : Nat → Nat) (T : SS) (u : Int32 × SS) {p : Program} {e : Env} {s : State} {m : MethodId} {args : Array Value} {below : List Frame} {meth : Method} {c : Code} {A : Nat → Prop} (C : zC p s m args meth c cX6_endBelowEnded 3 (some .int) RX6 wsX6_endBelowEnded D (zTy cI cJ cZ) A s.heap) : ∀ (n : Nat) (Tc : SS) (v1 : Int32) (v2 : Int32), f_X6_endBelowEnded_4 n Tc v1 v2 = some u → zW p l e { frames := 3, cells := 0, slots := 0, locals := 63 } s m args below meth c 3 D A s.heap 0 0 (MQ below (zQ D (zTy cI cJ cZ) (some (.int u.1)) (zwX6 cI cJ cZ a6 u.2) A) args s 0 0 A) (zwX6 cI cJ cZ a6 Tc) [(0, .ref (a6 0)), (1, .int v1), (2, .int v2)] 4 [] := by
  intro n
  induction n with
  | zero => intro Tc v1 v2 hF; exact absurd (show none = some u from hF) (fun q => nomatch q)
  | succ n ih =>
    intro Tc v1 v2 hF
    refine z_iload_n C dX6_endBelowEnded_4 rfl 2 rfl ?_
    refine z_aload_n C dX6_endBelowEnded_5 rfl 0 rfl ?_
    obtain ⟨r1, er1, hF⟩ := zbd hF
    refine z_callU (n := 0) (As := []) (ws' := (zwX6 cI cJ cZ a6 Tc)) C (c_X2_made_6 l D cI cJ cZ a6 Tc r1 er1) gX6_endBelowEnded_X2_made_u36X6 rfl rfl rfl rfl (by decide +kernel) ⟨Nat.le_of_ble_eq_true rfl, Nat.le_of_ble_eq_true rfl⟩ ⟨Nat.zero_le _, Nat.zero_le _⟩ 0 rfl rfl [] [] rfl rfl rfl rfl (Nat.le_of_ble_eq_true rfl) dX6_endBelowEnded_6 ?_
    refine z_icmp_ge (tgt := 49) C dX6_endBelowEnded_9 (by decide) (fun c2 => ?_) (fun c2 => ?_)
    · have hF := zif hF c2
      refine z_iload_n C dX6_endBelowEnded_49 rfl 1 rfl ?_
      have hu := Option.some.inj hF
      subst hu
      exact z_iret C dX6_endBelowEnded_50 rfl rfl
    · have hF := zelse hF c2
      refine z_aload_n C dX6_endBelowEnded_12 rfl 0 rfl ?_
      refine z_get (ref := "SecretBroker$Tokens") (v := .ref (a6 5)) C hX6_endBelowEnded_X6 0 rfl rfl 6 (by decide) kX6_endBelowEnded_9 (fun _ h9 => h9) rfl dX6_endBelowEnded_13 ?_
      refine z_iload_n C dX6_endBelowEnded_16 rfl 2 rfl ?_
      obtain ⟨g3, hF⟩ := zix_some hF
      refine z_iald (v := ((Tc 6) v2.toNatClampNeg)) C g3 5 rfl rfl rfl dX6_endBelowEnded_17 ?_
      refine z_iconst (v := (-1)) C dX6_endBelowEnded_18 (by decide) ?_
      refine z_icmp_eq (tgt := 43) C dX6_endBelowEnded_19 (by decide) (fun c4 => ?_) (fun c4 => ?_)
      · have hF := zif hF c4
        refine z_iinc (v := (v2 + 1)) (lv' := [(2, .int (v2 + 1)), (0, .ref (a6 0)), (1, .int v1)]) C dX6_endBelowEnded_43 2 rfl rfl (by decide) rfl ?_
        refine z_goto (tgt := 4) C dX6_endBelowEnded_46 (by decide) ?_
        exact z_sub C [1, 2, 0] rfl (ih Tc v1 (v2 + 1) hF)
      · have hF := zelse hF c4
        refine z_aload_n C dX6_endBelowEnded_22 rfl 0 rfl ?_
        refine z_aload_n C dX6_endBelowEnded_23 rfl 0 rfl ?_
        refine z_get (ref := "SecretBroker$Tokens") (v := .ref (a6 5)) C hX6_endBelowEnded_X6 0 rfl rfl 6 (by decide) kX6_endBelowEnded_9 (fun _ h9 => h9) rfl dX6_endBelowEnded_24 ?_
        refine z_iload_n C dX6_endBelowEnded_27 rfl 2 rfl ?_
        obtain ⟨g5, hF⟩ := zix_some hF
        refine z_iald (v := ((Tc 6) v2.toNatClampNeg)) C g5 5 rfl rfl rfl dX6_endBelowEnded_28 ?_
        obtain ⟨r6, er6, hF⟩ := zbd hF
        refine z_callU (n := 1) (As := [.int ((Tc 6) v2.toNatClampNeg)]) (ws' := (zwX6 cI cJ cZ a6 Tc)) C (c_X2_isOn_6 l D cI cJ cZ a6 Tc ((Tc 6) v2.toNatClampNeg) r6 er6) gX6_endBelowEnded_X2_isOn_u33X6 rfl rfl rfl rfl (by decide +kernel) ⟨Nat.le_of_ble_eq_true rfl, Nat.le_of_ble_eq_true rfl⟩ ⟨Nat.zero_le _, Nat.zero_le _⟩ 0 rfl rfl [] [] rfl rfl rfl rfl (Nat.le_of_ble_eq_true rfl) dX6_endBelowEnded_29 ?_
        refine z_if_ne (tgt := 43) C dX6_endBelowEnded_32 (by decide) (fun c7 => ?_) (fun c7 => ?_)
        · have hF := zelse hF c7
          refine z_iinc (v := (v2 + 1)) (lv' := [(2, .int (v2 + 1)), (0, .ref (a6 0)), (1, .int v1)]) C dX6_endBelowEnded_43 2 rfl rfl (by decide) rfl ?_
          refine z_goto (tgt := 4) C dX6_endBelowEnded_46 (by decide) ?_
          exact z_sub C [1, 2, 0] rfl (ih Tc v1 (v2 + 1) hF)
        · have hF := zif hF c7
          refine z_iload_n C dX6_endBelowEnded_35 rfl 1 rfl ?_
          refine z_aload_n C dX6_endBelowEnded_36 rfl 0 rfl ?_
          refine z_iload_n C dX6_endBelowEnded_37 rfl 2 rfl ?_
          obtain ⟨r8, er8, hF⟩ := zbd hF
          refine z_callU (n := 1) (As := [.int v2]) (ws' := (zwX6 cI cJ cZ a6 r8.2)) C (c_X2_end_6 l D cI cJ cZ a6 Tc v2 r8 er8) gX6_endBelowEnded_X2_end_u40X6 rfl rfl rfl rfl (by decide +kernel) ⟨Nat.le_of_ble_eq_true rfl, Nat.le_of_ble_eq_true rfl⟩ ⟨Nat.zero_le _, Nat.zero_le _⟩ 0 rfl rfl [] [] rfl rfl rfl rfl (Nat.le_of_ble_eq_true rfl) dX6_endBelowEnded_38 ?_
          refine z_iadd C dX6_endBelowEnded_41 ?_
          refine z_istore_n (lv' := [(1, .int (v1 + r8.1)), (0, .ref (a6 0)), (2, .int v2)]) C dX6_endBelowEnded_42 rfl (by decide) rfl ?_
          refine z_iinc (v := (v2 + 1)) (lv' := [(2, .int (v2 + 1)), (1, .int (v1 + r8.1)), (0, .ref (a6 0))]) C dX6_endBelowEnded_43 2 rfl rfl (by decide) rfl ?_
          refine z_goto (tgt := 4) C dX6_endBelowEnded_46 (by decide) ?_
          exact z_sub C [2, 1, 0] rfl (ih r8.2 (v1 + r8.1) (v2 + 1) hF)
set_option maxHeartbeats 4000000 in
set_option maxRecDepth 100000 in
theorem c_X6_endBelowEnded (l : Launch) (D : va_G) (cI cJ cZ : ClassId) (a6 : Nat → Nat) (T : SS) (u : Int32 × SS) (hF : f_X6_endBelowEnded T = some u) : zM l yX6_endBelowEnded wsX6_endBelowEnded ({ frames := 3, cells := 0, slots := 0, locals := 63 }) D (zTy cI cJ cZ) [.ref (a6 0)] (zwX6 cI cJ cZ a6 T) (some (.int u.1)) (zwX6 cI cJ cZ a6 u.2) := by
  refine z_body (cc := cX6_endBelowEnded) (maxL := 3) (rty := (some .int)) (own := RX6) (lv := [(0, .ref (a6 0))]) (by decide +kernel) rfl rfl (Nat.le_of_ble_eq_true rfl) rfl (fun p e s m args below meth c A C => ?_)
  refine z_iconst (v := 0) C dX6_endBelowEnded_0 (by decide) ?_
  refine z_istore_n (lv' := [(1, .int 0), (0, .ref (a6 0))]) C dX6_endBelowEnded_1 rfl (by decide) rfl ?_
  refine z_iconst (v := 0) C dX6_endBelowEnded_2 (by decide) ?_
  refine z_istore_n (lv' := [(2, .int 0), (1, .int 0), (0, .ref (a6 0))]) C dX6_endBelowEnded_3 rfl (by decide) rfl ?_
  exact z_sub C [2, 1, 0] rfl (c_X6_endBelowEnded_j4 l D cI cJ cZ a6 T u C 600 T 0 0 hF)
set_option maxHeartbeats 4000000 in
set_option maxRecDepth 100000 in
theorem c_X6_hangsBelow_j9 (l : Launch) (D : va_G) (cI cJ cZ : ClassId) (a6 : Nat → Nat) (T : SS) (u : Int32) {p : Program} {e : Env} {s : State} {m : MethodId} {args : Array Value} {below : List Frame} {meth : Method} {c : Code} {A : Nat → Prop} (C : zC p s m args meth c cX6_hangsBelow 5 (some .boolean) RX6 wsX6_hangsBelow D (zTy cI cJ cZ) A s.heap) : ∀ (n : Nat) (v2 : Int32) (v3 : Int32) (v4 : Int32), f_X6_hangsBelow_9 T n v2 v3 v4 = some u → zW p l e { frames := 2, cells := 0, slots := 0, locals := 42 } s m args below meth c 5 D A s.heap 0 0 (MQ below (zQ D (zTy cI cJ cZ) (some (.int u)) (zwX6 cI cJ cZ a6 T) A) args s 0 0 A) (zwX6 cI cJ cZ a6 T) [(0, .ref (a6 0)), (2, .int v2), (3, .int v3), (4, .int v4)] 9 [] := by
  intro n
  induction n with
  | zero => intro v2 v3 v4 hF; exact absurd (show none = some u from hF) (fun q => nomatch q)
  | succ n ih =>
    intro v2 v3 v4 hF
    refine z_iload C dX6_hangsBelow_9 3 rfl ?_
    refine z_sipush (v := 513) C dX6_hangsBelow_11 (by decide) ?_
    refine z_icmp_ge (tgt := 34) C dX6_hangsBelow_14 (by decide) (fun c2 => ?_) (fun c2 => ?_)
    · have hF := zif hF c2
      refine z_iload_n C dX6_hangsBelow_34 rfl 2 rfl ?_
      refine z_iload_n C dX6_hangsBelow_35 rfl 1 rfl ?_
      refine z_icmp_ne (tgt := 43) C dX6_hangsBelow_36 (by decide) (fun c3 => ?_) (fun c3 => ?_)
      · have hF := zelse hF c3
        refine z_iconst (v := 0) C dX6_hangsBelow_43 (by decide) ?_
        have hu := Option.some.inj hF
        subst hu
        exact z_iret C dX6_hangsBelow_44 rfl z_b0
      · have hF := zif hF c3
        refine z_iconst (v := 1) C dX6_hangsBelow_39 (by decide) ?_
        refine z_goto (tgt := 44) C dX6_hangsBelow_40 (by decide) ?_
        have hu := Option.some.inj hF
        subst hu
        exact z_iret C dX6_hangsBelow_44 rfl z_b1
    · have hF := zelse hF c2
      refine z_iload_n C dX6_hangsBelow_17 rfl 2 rfl ?_
      refine z_iload_n C dX6_hangsBelow_18 rfl 1 rfl ?_
      refine z_icmp_le (tgt := 34) C dX6_hangsBelow_19 (by decide) (fun c4 => ?_) (fun c4 => ?_)
      · have hF := zif hF c4
        refine z_iload_n C dX6_hangsBelow_34 rfl 2 rfl ?_
        refine z_iload_n C dX6_hangsBelow_35 rfl 1 rfl ?_
        refine z_icmp_ne (tgt := 43) C dX6_hangsBelow_36 (by decide) (fun c5 => ?_) (fun c5 => ?_)
        · have hF := zelse hF c5
          refine z_iconst (v := 0) C dX6_hangsBelow_43 (by decide) ?_
          have hu := Option.some.inj hF
          subst hu
          exact z_iret C dX6_hangsBelow_44 rfl z_b0
        · have hF := zif hF c5
          refine z_iconst (v := 1) C dX6_hangsBelow_39 (by decide) ?_
          refine z_goto (tgt := 44) C dX6_hangsBelow_40 (by decide) ?_
          have hu := Option.some.inj hF
          subst hu
          exact z_iret C dX6_hangsBelow_44 rfl z_b1
      · have hF := zelse hF c4
        refine z_aload_n C dX6_hangsBelow_22 rfl 0 rfl ?_
        refine z_iload_n C dX6_hangsBelow_23 rfl 2 rfl ?_
        obtain ⟨r6, er6, hF⟩ := zbd hF
        refine z_callV (n := 1) (As := [.int v3]) (ws' := (zwX6 cI cJ cZ a6 T)) C (c_X6_parentAt l D cI cJ cZ a6 T v3 r6 er6) gX6_hangsBelow_X6_parentAt rfl rfl rfl (by decide +kernel) ⟨Nat.le_of_ble_eq_true rfl, Nat.le_of_ble_eq_true rfl⟩ ⟨Nat.zero_le _, Nat.zero_le _⟩ 0 rfl rfl [] [] rfl rfl rfl rfl (Nat.le_of_ble_eq_true rfl) dX6_hangsBelow_24 ?_
        refine z_istore_n (lv' := [(3, .int r6), (0, .ref (a6 0)), (2, .int v2), (4, .int v4)]) C dX6_hangsBelow_27 rfl (by decide) rfl ?_
        refine z_iinc (v := (v4 + 1)) (lv' := [(4, .int (v4 + 1)), (3, .int r6), (0, .ref (a6 0)), (2, .int v2)]) C dX6_hangsBelow_28 3 rfl rfl (by decide) rfl ?_
        refine z_goto (tgt := 9) C dX6_hangsBelow_31 (by decide) ?_
        exact z_sub C [2, 3, 1, 0] rfl (ih v2 r6 (v4 + 1) hF)
set_option maxHeartbeats 4000000 in
set_option maxRecDepth 100000 in
theorem c_X6_hangsBelow (l : Launch) (D : va_G) (cI cJ cZ : ClassId) (a6 : Nat → Nat) (T : SS) (x1 : Int32) (x2 : Int32) (u : Int32) (hF : f_X6_hangsBelow T x1 x2 = some u) : zM l yX6_hangsBelow wsX6_hangsBelow ({ frames := 2, cells := 0, slots := 0, locals := 42 }) D (zTy cI cJ cZ) [.ref (a6 0), .int x1, .int x2] (zwX6 cI cJ cZ a6 T) (some (.int u)) (zwX6 cI cJ cZ a6 T) := by
  refine z_body (cc := cX6_hangsBelow) (maxL := 5) (rty := (some .boolean)) (own := RX6) (lv := [(0, .ref (a6 0)), (1, .int x1), (2, .int x2)]) (by decide +kernel) rfl rfl (Nat.le_of_ble_eq_true rfl) rfl (fun p e s m args below meth c A C => ?_)
  refine z_aload_n C dX6_hangsBelow_0 rfl 0 rfl ?_
  refine z_iload_n C dX6_hangsBelow_1 rfl 1 rfl ?_
  obtain ⟨r1, er1, hF⟩ := zbd hF
  refine z_callV (n := 1) (As := [.int x1]) (ws' := (zwX6 cI cJ cZ a6 T)) C (c_X6_parentAt l D cI cJ cZ a6 T x1 r1 er1) gX6_hangsBelow_X6_parentAt rfl rfl rfl (by decide +kernel) ⟨Nat.le_of_ble_eq_true rfl, Nat.le_of_ble_eq_true rfl⟩ ⟨Nat.zero_le _, Nat.zero_le _⟩ 0 rfl rfl [] [] rfl rfl rfl rfl (Nat.le_of_ble_eq_true rfl) dX6_hangsBelow_2 ?_
  refine z_istore_n (lv' := [(3, .int r1), (0, .ref (a6 0)), (1, .int x1), (2, .int x2)]) C dX6_hangsBelow_5 rfl (by decide) rfl ?_
  refine z_iconst (v := 0) C dX6_hangsBelow_6 (by decide) ?_
  refine z_istore (lv' := [(4, .int 0), (3, .int r1), (0, .ref (a6 0)), (1, .int x1), (2, .int x2)]) C dX6_hangsBelow_7 (by decide) rfl ?_
  exact z_sub C [2, 4, 1, 0] rfl (c_X6_hangsBelow_j9 l D cI cJ cZ a6 T u C 600 x2 r1 0 hF)
set_option maxHeartbeats 4000000 in
set_option maxRecDepth 100000 in
theorem c_X6_livingBelow_j4 (l : Launch) (D : va_G) (cI cJ cZ : ClassId) (a6 : Nat → Nat) (T : SS) (u : Int32) {p : Program} {e : Env} {s : State} {m : MethodId} {args : Array Value} {below : List Frame} {meth : Method} {c : Code} {A : Nat → Prop} (C : zC p s m args meth c cX6_livingBelow 4 (some .int) RX6 wsX6_livingBelow D (zTy cI cJ cZ) A s.heap) : ∀ (n : Nat) (v1 : Int32) (v2 : Int32) (v3 : Int32), f_X6_livingBelow_4 T n v1 v2 v3 = some u → zW p l e { frames := 3, cells := 0, slots := 0, locals := 66 } s m args below meth c 4 D A s.heap 0 0 (MQ below (zQ D (zTy cI cJ cZ) (some (.int u)) (zwX6 cI cJ cZ a6 T) A) args s 0 0 A) (zwX6 cI cJ cZ a6 T) [(0, .ref (a6 0)), (1, .int v1), (2, .int v2), (3, .int v3)] 4 [] := by
  intro n
  induction n with
  | zero => intro v1 v2 v3 hF; exact absurd (show none = some u from hF) (fun q => nomatch q)
  | succ n ih =>
    intro v1 v2 v3 hF
    refine z_iload_n C dX6_livingBelow_4 rfl 3 rfl ?_
    refine z_aload_n C dX6_livingBelow_5 rfl 0 rfl ?_
    obtain ⟨r1, er1, hF⟩ := zbd hF
    refine z_callU (n := 0) (As := []) (ws' := (zwX6 cI cJ cZ a6 T)) C (c_X2_made_6 l D cI cJ cZ a6 T r1 er1) gX6_livingBelow_X2_made_u36X6 rfl rfl rfl rfl (by decide +kernel) ⟨Nat.le_of_ble_eq_true rfl, Nat.le_of_ble_eq_true rfl⟩ ⟨Nat.zero_le _, Nat.zero_le _⟩ 0 rfl rfl [] [] rfl rfl rfl rfl (Nat.le_of_ble_eq_true rfl) dX6_livingBelow_6 ?_
    refine z_icmp_ge (tgt := 38) C dX6_livingBelow_9 (by decide) (fun c2 => ?_) (fun c2 => ?_)
    · have hF := zif hF c2
      refine z_iload_n C dX6_livingBelow_38 rfl 2 rfl ?_
      have hu := Option.some.inj hF
      subst hu
      exact z_iret C dX6_livingBelow_39 rfl rfl
    · have hF := zelse hF c2
      refine z_aload_n C dX6_livingBelow_12 rfl 0 rfl ?_
      refine z_iload_n C dX6_livingBelow_13 rfl 3 rfl ?_
      obtain ⟨r3, er3, hF⟩ := zbd hF
      refine z_callU (n := 1) (As := [.int v3]) (ws' := (zwX6 cI cJ cZ a6 T)) C (c_X2_isOn_6 l D cI cJ cZ a6 T v3 r3 er3) gX6_livingBelow_X2_isOn_u33X6 rfl rfl rfl rfl (by decide +kernel) ⟨Nat.le_of_ble_eq_true rfl, Nat.le_of_ble_eq_true rfl⟩ ⟨Nat.zero_le _, Nat.zero_le _⟩ 0 rfl rfl [] [] rfl rfl rfl rfl (Nat.le_of_ble_eq_true rfl) dX6_livingBelow_14 ?_
      refine z_if_eq (tgt := 32) C dX6_livingBelow_17 (by decide) (fun c4 => ?_) (fun c4 => ?_)
      · have hF := zif hF c4
        refine z_iinc (v := (v3 + 1)) (lv' := [(3, .int (v3 + 1)), (0, .ref (a6 0)), (1, .int v1), (2, .int v2)]) C dX6_livingBelow_32 3 rfl rfl (by decide) rfl ?_
        refine z_goto (tgt := 4) C dX6_livingBelow_35 (by decide) ?_
        exact z_sub C [1, 2, 3, 0] rfl (ih v1 v2 (v3 + 1) hF)
      · have hF := zelse hF c4
        refine z_aload_n C dX6_livingBelow_20 rfl 0 rfl ?_
        refine z_iload_n C dX6_livingBelow_21 rfl 3 rfl ?_
        refine z_iload_n C dX6_livingBelow_22 rfl 1 rfl ?_
        obtain ⟨r5, er5, hF⟩ := zbd hF
        refine z_callV (n := 2) (As := [.int v3, .int v1]) (ws' := (zwX6 cI cJ cZ a6 T)) C (c_X6_hangsBelow l D cI cJ cZ a6 T v3 v1 r5 er5) gX6_livingBelow_X6_hangsBelow rfl rfl rfl (by decide +kernel) ⟨Nat.le_of_ble_eq_true rfl, Nat.le_of_ble_eq_true rfl⟩ ⟨Nat.zero_le _, Nat.zero_le _⟩ 0 rfl rfl [] [] rfl rfl rfl rfl (Nat.le_of_ble_eq_true rfl) dX6_livingBelow_23 ?_
        refine z_if_eq (tgt := 32) C dX6_livingBelow_26 (by decide) (fun c6 => ?_) (fun c6 => ?_)
        · have hF := zif hF c6
          refine z_iinc (v := (v3 + 1)) (lv' := [(3, .int (v3 + 1)), (0, .ref (a6 0)), (1, .int v1), (2, .int v2)]) C dX6_livingBelow_32 3 rfl rfl (by decide) rfl ?_
          refine z_goto (tgt := 4) C dX6_livingBelow_35 (by decide) ?_
          exact z_sub C [1, 2, 3, 0] rfl (ih v1 v2 (v3 + 1) hF)
        · have hF := zelse hF c6
          refine z_iinc (v := (v2 + 1)) (lv' := [(2, .int (v2 + 1)), (0, .ref (a6 0)), (1, .int v1), (3, .int v3)]) C dX6_livingBelow_29 2 rfl rfl (by decide) rfl ?_
          refine z_iinc (v := (v3 + 1)) (lv' := [(3, .int (v3 + 1)), (2, .int (v2 + 1)), (0, .ref (a6 0)), (1, .int v1)]) C dX6_livingBelow_32 3 rfl rfl (by decide) rfl ?_
          refine z_goto (tgt := 4) C dX6_livingBelow_35 (by decide) ?_
          exact z_sub C [2, 3, 1, 0] rfl (ih v1 (v2 + 1) (v3 + 1) hF)
set_option maxHeartbeats 4000000 in
set_option maxRecDepth 100000 in
theorem c_X6_livingBelow (l : Launch) (D : va_G) (cI cJ cZ : ClassId) (a6 : Nat → Nat) (T : SS) (x1 : Int32) (u : Int32) (hF : f_X6_livingBelow T x1 = some u) : zM l yX6_livingBelow wsX6_livingBelow ({ frames := 3, cells := 0, slots := 0, locals := 66 }) D (zTy cI cJ cZ) [.ref (a6 0), .int x1] (zwX6 cI cJ cZ a6 T) (some (.int u)) (zwX6 cI cJ cZ a6 T) := by
  refine z_body (cc := cX6_livingBelow) (maxL := 4) (rty := (some .int)) (own := RX6) (lv := [(0, .ref (a6 0)), (1, .int x1)]) (by decide +kernel) rfl rfl (Nat.le_of_ble_eq_true rfl) rfl (fun p e s m args below meth c A C => ?_)
  refine z_iconst (v := 0) C dX6_livingBelow_0 (by decide) ?_
  refine z_istore_n (lv' := [(2, .int 0), (0, .ref (a6 0)), (1, .int x1)]) C dX6_livingBelow_1 rfl (by decide) rfl ?_
  refine z_iconst (v := 0) C dX6_livingBelow_2 (by decide) ?_
  refine z_istore_n (lv' := [(3, .int 0), (2, .int 0), (0, .ref (a6 0)), (1, .int x1)]) C dX6_livingBelow_3 rfl (by decide) rfl ?_
  exact z_sub C [2, 3, 1, 0] rfl (c_X6_livingBelow_j4 l D cI cJ cZ a6 T u C 600 x1 0 0 hF)
