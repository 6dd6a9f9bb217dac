theorem kX8_thrown_88 : Cond.fieldLink RX8 88 "SecretBrokerModel" "thrown" "I" ∈ wsX8_thrown := by decide +kernel
theorem hX8_thrown_X8 : ∀ w ∈ wsX80, w ∈ wsX8_thrown := by decide +kernel
set_option maxHeartbeats 4000000 in
set_option maxRecDepth 100000 in
theorem c_X8_thrown (l : Launch) (D : va_G) (cI cJ cZ : ClassId) (a8 : Nat → Nat) (S : SS) (V : SL) (u : Int32) (hF : f_X8_thrown S = some u) : zM l yX8_thrown wsX8_thrown ({ frames := 0, cells := 0, slots := 0, locals := 0 }) D (zTy cI cJ cZ) [.ref (a8 0)] (zwX8 cI cJ cZ a8 S V) (some (.int u)) (zwX8 cI cJ cZ a8 S V) := by
  refine z_body (cc := cX8_thrown) (maxL := 1) (rty := (some .int)) (own := RX8) (lv := [(0, .ref (a8 0))]) (by decide +kernel) rfl rfl (Nat.le_of_ble_eq_true rfl) rfl (fun p e s m args below meth c A C => ?_)
  refine z_aload_n C dX8_thrown_0 rfl 0 rfl ?_
  refine z_get (ref := "SecretBrokerModel") (v := .int (S 0 0)) C hX8_thrown_X8 0 rfl rfl 0 (by decide) kX8_thrown_88 (fun _ h9 => h9) rfl dX8_thrown_1 ?_
  have hu := Option.some.inj hF
  subst hu
  exact z_iret C dX8_thrown_4 rfl rfl
theorem kX8_writes_75 : Cond.fieldLink RX8 75 "SecretBrokerModel" "kind" "[I" ∈ wsX8_writes := by decide +kernel
theorem kX8_writes_91 : Cond.fieldLink RX8 91 "SecretBrokerModel" "entries" "I" ∈ wsX8_writes := by decide +kernel
theorem kX8_writes_78 : Cond.fieldLink RX8 78 "SecretBrokerModel" "subject" "[I" ∈ wsX8_writes := by decide +kernel
theorem kX8_writes_81 : Cond.fieldLink RX8 81 "SecretBrokerModel" "detail" "[I" ∈ wsX8_writes := by decide +kernel
theorem kX8_writes_84 : Cond.fieldLink RX8 84 "SecretBrokerModel" "sum" "[J" ∈ wsX8_writes := by decide +kernel
theorem kX8_writes_96 : Cond.constantLong RX8 96 (31) ∈ wsX8_writes := by decide +kernel
theorem kX8_writes_98 : Cond.constantLong RX8 98 (7) ∈ wsX8_writes := by decide +kernel
theorem kX8_writes_100 : Cond.constantLong RX8 100 (5) ∈ wsX8_writes := by decide +kernel
theorem kX8_writes_102 : Cond.constantLong RX8 102 (3) ∈ wsX8_writes := by decide +kernel
theorem kX8_writes_104 : Cond.fieldLink RX8 104 "SecretBrokerModel" "time" "I" ∈ wsX8_writes := by decide +kernel
theorem kX8_writes_107 : Cond.constantLong RX8 107 (1000003) ∈ wsX8_writes := by decide +kernel
theorem kX8_writes_94 : Cond.constantLong RX8 94 (17) ∈ wsX8_writes := by decide +kernel
theorem hX8_writes_X8 : ∀ w ∈ wsX80, w ∈ wsX8_writes := by decide +kernel
set_option maxHeartbeats 4000000 in
set_option maxRecDepth 100000 in
theorem c_X8_writes (l : Launch) (D : va_G) (cI cJ cZ : ClassId) (a8 : Nat → Nat) (S : SS) (V : SL) (x1 : Int32) (x2 : Int32) (x3 : Int32) (u : SS × SL) (hF : f_X8_writes S V x1 x2 x3 = some u) : zM l yX8_writes wsX8_writes ({ frames := 0, cells := 0, slots := 0, locals := 0 }) D (zTy cI cJ cZ) [.ref (a8 0), .int x1, .int x2, .int x3] (zwX8 cI cJ cZ a8 S V) none (zwX8 cI cJ cZ a8 u.1 u.2) := by
  refine z_body (cc := cX8_writes) (maxL := 6) (rty := none) (own := RX8) (lv := [(0, .ref (a8 0)), (1, .int x1), (2, .int x2), (3, .int x3)]) (by decide +kernel) rfl rfl (Nat.le_of_ble_eq_true rfl) rfl (fun p e s m args below meth c A C => ?_)
  refine z_aload_n C dX8_writes_0 rfl 0 rfl ?_
  refine z_get (ref := "SecretBrokerModel") (v := .ref (a8 21)) C hX8_writes_X8 0 rfl rfl 27 (by decide) kX8_writes_75 (fun _ h9 => h9) rfl dX8_writes_1 ?_
  refine z_aload_n C dX8_writes_4 rfl 0 rfl ?_
  refine z_get (ref := "SecretBrokerModel") (v := .int (S 26 0)) C hX8_writes_X8 0 rfl rfl 26 (by decide) kX8_writes_91 (fun _ h9 => h9) rfl dX8_writes_5 ?_
  refine z_iload_n C dX8_writes_8 rfl 1 rfl ?_
  obtain ⟨g1, hF⟩ := zix_some hF
  refine z_iast (ws' := (zwX8 cI cJ cZ a8 (za S 27 (S 26 0) x1) V)) C g1 21 rfl rfl dX8_writes_9 (za_row S 27 (S 26 0) x1) (zr_X8_27 cI cJ cZ a8 S V (S 26 0) x1) ?_
  refine z_aload_n C dX8_writes_10 rfl 0 rfl ?_
  refine z_get (ref := "SecretBrokerModel") (v := .ref (a8 22)) C hX8_writes_X8 0 rfl rfl 28 (by decide) kX8_writes_78 (fun _ h9 => h9) rfl dX8_writes_11 ?_
  refine z_aload_n C dX8_writes_14 rfl 0 rfl ?_
  refine z_get (ref := "SecretBrokerModel") (v := .int (S 26 0)) C hX8_writes_X8 0 rfl rfl 26 (by decide) kX8_writes_91 (fun _ h9 => h9) rfl dX8_writes_15 ?_
  refine z_iload_n C dX8_writes_18 rfl 2 rfl ?_
  obtain ⟨g2, hF⟩ := zix_some hF
  refine z_iast (ws' := (zwX8 cI cJ cZ a8 (za (za S 27 (S 26 0) x1) 28 (S 26 0) x2) V)) C g2 22 rfl rfl dX8_writes_19 (za_row (za S 27 (S 26 0) x1) 28 (S 26 0) x2) (zr_X8_28 cI cJ cZ a8 (za S 27 (S 26 0) x1) V (S 26 0) x2) ?_
  refine z_aload_n C dX8_writes_20 rfl 0 rfl ?_
  refine z_get (ref := "SecretBrokerModel") (v := .ref (a8 23)) C hX8_writes_X8 0 rfl rfl 29 (by decide) kX8_writes_81 (fun _ h9 => h9) rfl dX8_writes_21 ?_
  refine z_aload_n C dX8_writes_24 rfl 0 rfl ?_
  refine z_get (ref := "SecretBrokerModel") (v := .int (S 26 0)) C hX8_writes_X8 0 rfl rfl 26 (by decide) kX8_writes_91 (fun _ h9 => h9) rfl dX8_writes_25 ?_
  refine z_iload_n C dX8_writes_28 rfl 3 rfl ?_
  obtain ⟨g3, hF⟩ := zix_some hF
  refine z_iast (ws' := (zwX8 cI cJ cZ a8 (za (za (za S 27 (S 26 0) x1) 28 (S 26 0) x2) 29 (S 26 0) x3) V)) C g3 23 rfl rfl dX8_writes_29 (za_row (za (za S 27 (S 26 0) x1) 28 (S 26 0) x2) 29 (S 26 0) x3) (zr_X8_29 cI cJ cZ a8 (za (za S 27 (S 26 0) x1) 28 (S 26 0) x2) V (S 26 0) x3) ?_
  refine z_aload_n C dX8_writes_30 rfl 0 rfl ?_
  refine z_get (ref := "SecretBrokerModel") (v := .int (S 26 0)) C hX8_writes_X8 0 rfl rfl 26 (by decide) kX8_writes_91 (fun _ h9 => h9) rfl dX8_writes_31 ?_
  refine z_if_ne (tgt := 43) C dX8_writes_34 (by decide) (fun c4 => ?_) (fun c4 => ?_)
  · have hF := zelse hF c4
    refine z_aload_n C dX8_writes_43 rfl 0 rfl ?_
    refine z_get (ref := "SecretBrokerModel") (v := .ref (a8 24)) C hX8_writes_X8 0 rfl rfl 30 (by decide) kX8_writes_84 (fun _ h9 => h9) rfl dX8_writes_44 ?_
    refine z_aload_n C dX8_writes_47 rfl 0 rfl ?_
    refine z_get (ref := "SecretBrokerModel") (v := .int (S 26 0)) C hX8_writes_X8 0 rfl rfl 26 (by decide) kX8_writes_91 (fun _ h9 => h9) rfl dX8_writes_48 ?_
    refine z_iconst (v := 1) C dX8_writes_51 (by decide) ?_
    refine z_isub C dX8_writes_52 ?_
    obtain ⟨g5, hF⟩ := zix_some hF
    refine z_lald (v := (V ((S 26 0) - 1).toNatClampNeg)) C g5 24 rfl rfl rfl dX8_writes_53 ?_
    refine z_lstore (lv' := [(4, .long (V ((S 26 0) - 1).toNatClampNeg)), (0, .ref (a8 0)), (1, .int x1), (2, .int x2), (3, .int x3)]) C dX8_writes_54 (by decide) rfl ?_
    refine z_aload_n C dX8_writes_56 rfl 1 rfl ?_
    refine z_get (ref := "SecretBrokerModel") (v := .ref (a8 24)) C hX8_writes_X8 0 rfl rfl 30 (by decide) kX8_writes_84 (fun _ h9 => h9) rfl dX8_writes_57 ?_
    refine z_aload_n C dX8_writes_60 rfl 1 rfl ?_
    refine z_get (ref := "SecretBrokerModel") (v := .int (S 26 0)) C hX8_writes_X8 0 rfl rfl 26 (by decide) kX8_writes_91 (fun _ h9 => h9) rfl dX8_writes_61 ?_
    refine z_ldc2 (v := 31) C kX8_writes_96 dX8_writes_64 ?_
    refine z_lload C dX8_writes_67 0 rfl ?_
    refine z_lmul C dX8_writes_69 ?_
    refine z_ldc2 (v := 7) C kX8_writes_98 dX8_writes_70 ?_
    refine z_iload_n C dX8_writes_73 rfl 2 rfl ?_
    refine z_i2l C dX8_writes_74 ?_
    refine z_lmul C dX8_writes_75 ?_
    refine z_ladd C dX8_writes_76 ?_
    refine z_ldc2 (v := 5) C kX8_writes_100 dX8_writes_77 ?_
    refine z_iload_n C dX8_writes_80 rfl 3 rfl ?_
    refine z_i2l C dX8_writes_81 ?_
    refine z_lmul C dX8_writes_82 ?_
    refine z_ladd C dX8_writes_83 ?_
    refine z_ldc2 (v := 3) C kX8_writes_102 dX8_writes_84 ?_
    refine z_iload_n C dX8_writes_87 rfl 4 rfl ?_
    refine z_i2l C dX8_writes_88 ?_
    refine z_lmul C dX8_writes_89 ?_
    refine z_ladd C dX8_writes_90 ?_
    refine z_aload_n C dX8_writes_91 rfl 1 rfl ?_
    refine z_get (ref := "SecretBrokerModel") (v := .int (S 1 0)) C hX8_writes_X8 0 rfl rfl 1 (by decide) kX8_writes_104 (fun _ h9 => h9) rfl dX8_writes_92 ?_
    refine z_i2l C dX8_writes_95 ?_
    refine z_ladd C dX8_writes_96 ?_
    refine z_ldc2 (v := 1000003) C kX8_writes_107 dX8_writes_97 ?_
    refine z_lrem C dX8_writes_100 (by decide) ?_
    obtain ⟨g6, hF⟩ := zix_some hF
    refine z_last (ws' := (zwX8 cI cJ cZ a8 (za (za (za S 27 (S 26 0) x1) 28 (S 26 0) x2) 29 (S 26 0) x3) (vp_updL V (S 26 0).toNatClampNeg ((((((31 * (V ((S 26 0) - 1).toNatClampNeg)) + (7 * ((x1).toInt64))) + (5 * ((x2).toInt64))) + (3 * ((x3).toInt64))) + (((S 1 0)).toInt64)) - (((((31 * (V ((S 26 0) - 1).toNatClampNeg)) + (7 * ((x1).toInt64))) + (5 * ((x2).toInt64))) + (3 * ((x3).toInt64))) + (((S 1 0)).toInt64)) / 1000003 * 1000003)))) C g6 24 rfl rfl dX8_writes_101 (zr_X8_30 cI cJ cZ a8 (za (za (za S 27 (S 26 0) x1) 28 (S 26 0) x2) 29 (S 26 0) x3) V ((S 26 0).toNatClampNeg) ((((((31 * (V ((S 26 0) - 1).toNatClampNeg)) + (7 * ((x1).toInt64))) + (5 * ((x2).toInt64))) + (3 * ((x3).toInt64))) + (((S 1 0)).toInt64)) - (((((31 * (V ((S 26 0) - 1).toNatClampNeg)) + (7 * ((x1).toInt64))) + (5 * ((x2).toInt64))) + (3 * ((x3).toInt64))) + (((S 1 0)).toInt64)) / 1000003 * 1000003)) ?_
    refine z_aload_n C dX8_writes_102 rfl 1 rfl ?_
    refine z_dup C dX8_writes_103 rfl ?_
    refine z_get (ref := "SecretBrokerModel") (v := .int (S 26 0)) C hX8_writes_X8 0 rfl rfl 26 (by decide) kX8_writes_91 (fun _ h9 => h9) rfl dX8_writes_104 ?_
    refine z_iconst (v := 1) C dX8_writes_107 (by decide) ?_
    refine z_iadd C dX8_writes_108 ?_
    refine z_put (ws' := (zwX8 cI cJ cZ a8 (zs (za (za (za S 27 (S 26 0) x1) 28 (S 26 0) x2) 29 (S 26 0) x3) 26 ((S 26 0) + 1)) (vp_updL V (S 26 0).toNatClampNeg ((((((31 * (V ((S 26 0) - 1).toNatClampNeg)) + (7 * ((x1).toInt64))) + (5 * ((x2).toInt64))) + (3 * ((x3).toInt64))) + (((S 1 0)).toInt64)) - (((((31 * (V ((S 26 0) - 1).toNatClampNeg)) + (7 * ((x1).toInt64))) + (5 * ((x2).toInt64))) + (3 * ((x3).toInt64))) + (((S 1 0)).toInt64)) / 1000003 * 1000003)))) (ref := "SecretBrokerModel") (ty := .int) C hX8_writes_X8 tyX8 tyX8_ok nmX8 0 rfl rfl 26 (by decide) kX8_writes_91 (fun _ h9 => h9) rfl (by decide +kernel) rfl rfl (Nat.le_of_ble_eq_true rfl) dX8_writes_109 (zs_val (za (za (za S 27 (S 26 0) x1) 28 (S 26 0) x2) 29 (S 26 0) x3) 26 ((S 26 0) + 1)) (zf_X8_26 cI cJ cZ a8 (za (za (za S 27 (S 26 0) x1) 28 (S 26 0) x2) 29 (S 26 0) x3) (vp_updL V (S 26 0).toNatClampNeg ((((((31 * (V ((S 26 0) - 1).toNatClampNeg)) + (7 * ((x1).toInt64))) + (5 * ((x2).toInt64))) + (3 * ((x3).toInt64))) + (((S 1 0)).toInt64)) - (((((31 * (V ((S 26 0) - 1).toNatClampNeg)) + (7 * ((x1).toInt64))) + (5 * ((x2).toInt64))) + (3 * ((x3).toInt64))) + (((S 1 0)).toInt64)) / 1000003 * 1000003)) ((S 26 0) + 1)) ?_
    have hu := Option.some.inj hF
    subst hu
    exact z_vret C dX8_writes_112 rfl
  · have hF := zif hF c4
    refine z_ldc2 (v := 17) C kX8_writes_94 dX8_writes_37 ?_
    refine z_goto (tgt := 54) C dX8_writes_40 (by decide) ?_
    refine z_lstore (lv' := [(4, .long 17), (0, .ref (a8 0)), (1, .int x1), (2, .int x2), (3, .int x3)]) C dX8_writes_54 (by decide) rfl ?_
    refine z_aload_n C dX8_writes_56 rfl 1 rfl ?_
    refine z_get (ref := "SecretBrokerModel") (v := .ref (a8 24)) C hX8_writes_X8 0 rfl rfl 30 (by decide) kX8_writes_84 (fun _ h9 => h9) rfl dX8_writes_57 ?_
    refine z_aload_n C dX8_writes_60 rfl 1 rfl ?_
    refine z_get (ref := "SecretBrokerModel") (v := .int (S 26 0)) C hX8_writes_X8 0 rfl rfl 26 (by decide) kX8_writes_91 (fun _ h9 => h9) rfl dX8_writes_61 ?_
    refine z_ldc2 (v := 31) C kX8_writes_96 dX8_writes_64 ?_
    refine z_lload C dX8_writes_67 0 rfl ?_
    refine z_lmul C dX8_writes_69 ?_
    refine z_ldc2 (v := 7) C kX8_writes_98 dX8_writes_70 ?_
    refine z_iload_n C dX8_writes_73 rfl 2 rfl ?_
    refine z_i2l C dX8_writes_74 ?_
    refine z_lmul C dX8_writes_75 ?_
    refine z_ladd C dX8_writes_76 ?_
    refine z_ldc2 (v := 5) C kX8_writes_100 dX8_writes_77 ?_
    refine z_iload_n C dX8_writes_80 rfl 3 rfl ?_
    refine z_i2l C dX8_writes_81 ?_
    refine z_lmul C dX8_writes_82 ?_
    refine z_ladd C dX8_writes_83 ?_
    refine z_ldc2 (v := 3) C kX8_writes_102 dX8_writes_84 ?_
    refine z_iload_n C dX8_writes_87 rfl 4 rfl ?_
    refine z_i2l C dX8_writes_88 ?_
    refine z_lmul C dX8_writes_89 ?_
    refine z_ladd C dX8_writes_90 ?_
    refine z_aload_n C dX8_writes_91 rfl 1 rfl ?_
    refine z_get (ref := "SecretBrokerModel") (v := .int (S 1 0)) C hX8_writes_X8 0 rfl rfl 1 (by decide) kX8_writes_104 (fun _ h9 => h9) rfl dX8_writes_92 ?_
    refine z_i2l C dX8_writes_95 ?_
    refine z_ladd C dX8_writes_96 ?_
    refine z_ldc2 (v := 1000003) C kX8_writes_107 dX8_writes_97 ?_
    refine z_lrem C dX8_writes_100 (by decide) ?_
    obtain ⟨g7, hF⟩ := zix_some hF
    refine z_last (ws' := (zwX8 cI cJ cZ a8 (za (za (za S 27 (S 26 0) x1) 28 (S 26 0) x2) 29 (S 26 0) x3) (vp_updL V (S 26 0).toNatClampNeg ((((((31 * 17) + (7 * ((x1).toInt64))) + (5 * ((x2).toInt64))) + (3 * ((x3).toInt64))) + (((S 1 0)).toInt64)) - (((((31 * 17) + (7 * ((x1).toInt64))) + (5 * ((x2).toInt64))) + (3 * ((x3).toInt64))) + (((S 1 0)).toInt64)) / 1000003 * 1000003)))) C g7 24 rfl rfl dX8_writes_101 (zr_X8_30 cI cJ cZ a8 (za (za (za S 27 (S 26 0) x1) 28 (S 26 0) x2) 29 (S 26 0) x3) V ((S 26 0).toNatClampNeg) ((((((31 * 17) + (7 * ((x1).toInt64))) + (5 * ((x2).toInt64))) + (3 * ((x3).toInt64))) + (((S 1 0)).toInt64)) - (((((31 * 17) + (7 * ((x1).toInt64))) + (5 * ((x2).toInt64))) + (3 * ((x3).toInt64))) + (((S 1 0)).toInt64)) / 1000003 * 1000003)) ?_
    refine z_aload_n C dX8_writes_102 rfl 1 rfl ?_
    refine z_dup C dX8_writes_103 rfl ?_
    refine z_get (ref := "SecretBrokerModel") (v := .int (S 26 0)) C hX8_writes_X8 0 rfl rfl 26 (by decide) kX8_writes_91 (fun _ h9 => h9) rfl dX8_writes_104 ?_
    refine z_iconst (v := 1) C dX8_writes_107 (by decide) ?_
    refine z_iadd C dX8_writes_108 ?_
    refine z_put (ws' := (zwX8 cI cJ cZ a8 (zs (za (za (za S 27 (S 26 0) x1) 28 (S 26 0) x2) 29 (S 26 0) x3) 26 ((S 26 0) + 1)) (vp_updL V (S 26 0).toNatClampNeg ((((((31 * 17) + (7 * ((x1).toInt64))) + (5 * ((x2).toInt64))) + (3 * ((x3).toInt64))) + (((S 1 0)).toInt64)) - (((((31 * 17) + (7 * ((x1).toInt64))) + (5 * ((x2).toInt64))) + (3 * ((x3).toInt64))) + (((S 1 0)).toInt64)) / 1000003 * 1000003)))) (ref := "SecretBrokerModel") (ty := .int) C hX8_writes_X8 tyX8 tyX8_ok nmX8 0 rfl rfl 26 (by decide) kX8_writes_91 (fun _ h9 => h9) rfl (by decide +kernel) rfl rfl (Nat.le_of_ble_eq_true rfl) dX8_writes_109 (zs_val (za (za (za S 27 (S 26 0) x1) 28 (S 26 0) x2) 29 (S 26 0) x3) 26 ((S 26 0) + 1)) (zf_X8_26 cI cJ cZ a8 (za (za (za S 27 (S 26 0) x1) 28 (S 26 0) x2) 29 (S 26 0) x3) (vp_updL V (S 26 0).toNatClampNeg ((((((31 * 17) + (7 * ((x1).toInt64))) + (5 * ((x2).toInt64))) + (3 * ((x3).toInt64))) + (((S 1 0)).toInt64)) - (((((31 * 17) + (7 * ((x1).toInt64))) + (5 * ((x2).toInt64))) + (3 * ((x3).toInt64))) + (((S 1 0)).toInt64)) / 1000003 * 1000003)) ((S 26 0) + 1)) ?_
    have hu := Option.some.inj hF
    subst hu
    exact z_vret C dX8_writes_112 rfl
set_option maxHeartbeats 4000000 in
set_option maxRecDepth 100000 in
theorem c_X8_digits_j4 (l : Launch) (D : va_G) (cI cJ cZ : ClassId) (u : Int32) {p : Program} {e : Env} {s : State} {m : MethodId} {args : Array Value} {below : List Frame} {meth : Method} {c : Code} {A : Nat → Prop} (C : zC p s m args meth c cX8_digits 3 (some .int) RX8 wsX8_digits D (zTy cI cJ cZ) A s.heap) : ∀ (n : Nat) (v1 : Int32) (v2 : Int32), f_X8_digits_4 n v1 v2 = some u → zW p l e { frames := 0, cells := 0, slots := 0, locals := 0 } s m args below meth c 3 D A s.heap 0 0 (MQ below (zQ D (zTy cI cJ cZ) (some (.int u)) [] A) args s 0 0 A) [] [(1, .int v1), (2, .int v2)] 4 [] := by
  intro n
  induction n with
  | zero => intro v1 v2 hF; exact absurd (show none = some u from hF) (fun q => nomatch q)
  | succ n ih =>
    intro v1 v2 hF
    refine z_iload_n C dX8_digits_4 rfl 1 rfl ?_
    refine z_if_le (tgt := 19) C dX8_digits_5 (by decide) (fun c1 => ?_) (fun c1 => ?_)
    · have hF := zif hF c1
      refine z_iload_n C dX8_digits_19 rfl 0 rfl ?_
      have hu := Option.some.inj hF
      subst hu
      exact z_iret C dX8_digits_20 rfl rfl
    · have hF := zelse hF c1
      refine z_iinc (v := (v1 + 1)) (lv' := [(1, .int (v1 + 1)), (2, .int v2)]) C dX8_digits_8 0 rfl rfl (by decide) rfl ?_
      refine z_iload_n C dX8_digits_11 rfl 1 rfl ?_
      refine z_bipush (v := 10) C dX8_digits_12 (by decide) ?_
      refine z_idiv C dX8_digits_14 (by decide) ?_
      refine z_istore_n (lv' := [(2, .int (v2 / 10)), (1, .int (v1 + 1))]) C dX8_digits_15 rfl (by decide) rfl ?_
      refine z_goto (tgt := 4) C dX8_digits_16 (by decide) ?_
      exact z_sub C [1, 0] rfl (ih (v1 + 1) (v2 / 10) hF)
set_option maxHeartbeats 4000000 in
set_option maxRecDepth 100000 in
theorem c_X8_digits (l : Launch) (D : va_G) (cI cJ cZ : ClassId) (x1 : Int32) (u : Int32) (hF : f_X8_digits x1 = some u) : zM l yX8_digits wsX8_digits ({ frames := 0, cells := 0, slots := 0, locals := 0 }) D (zTy cI cJ cZ) [.int x1] [] (some (.int u)) [] := by
  refine z_body (cc := cX8_digits) (maxL := 3) (rty := (some .int)) (own := RX8) (lv := [(0, .int x1)]) (by decide +kernel) rfl rfl (Nat.le_of_ble_eq_true rfl) rfl (fun p e s m args below meth c A C => ?_)
  refine z_iconst (v := 0) C dX8_digits_0 (by decide) ?_
  refine z_istore_n (lv' := [(1, .int 0), (0, .int x1)]) C dX8_digits_1 rfl (by decide) rfl ?_
  refine z_iload_n C dX8_digits_2 rfl 1 rfl ?_
  refine z_istore_n (lv' := [(2, .int x1), (1, .int 0), (0, .int x1)]) C dX8_digits_3 rfl (by decide) rfl ?_
  exact z_sub C [1, 0] rfl (c_X8_digits_j4 l D cI cJ cZ u C 600 0 x1 hF)
set_option maxHeartbeats 4000000 in
set_option maxRecDepth 100000 in
theorem c_X8_upper_j7 (l : Launch) (D : va_G) (cI cJ cZ : ClassId) (u : Int32) {p : Program} {e : Env} {s : State} {m : MethodId} {args : Array Value} {below : List Frame} {meth : Method} {c : Code} {A : Nat → Prop} (C : zC p s m args meth c cX8_upper 4 (some .int) RX8 wsX8_upper D (zTy cI cJ cZ) A s.heap) : ∀ (n : Nat) (v1 : Int32) (v2 : Int32) (v3 : Int32), f_X8_upper_7 n v1 v2 v3 = some u → zW p l e { frames := 1, cells := 0, slots := 0, locals := 22 } s m args below meth c 4 D A s.heap 0 0 (MQ below (zQ D (zTy cI cJ cZ) (some (.int u)) [] A) args s 0 0 A) [] [(1, .int v1), (2, .int v2), (3, .int v3)] 7 [] := by
  intro n
  induction n with
  | zero => intro v1 v2 v3 hF; exact absurd (show none = some u from hF) (fun q => nomatch q)
  | succ n ih =>
    intro v1 v2 v3 hF
    refine z_iload_n C dX8_upper_7 rfl 2 rfl ?_
    refine z_iload_n C dX8_upper_8 rfl 0 rfl ?_
    refine z_icmp_le (tgt := 23) C dX8_upper_9 (by decide) (fun c2 => ?_) (fun c2 => ?_)
    · have hF := zif hF c2
      refine z_iload_n C dX8_upper_23 rfl 1 rfl ?_
      have hu := Option.some.inj hF
      subst hu
      exact z_iret C dX8_upper_24 rfl rfl
    · have hF := zelse hF c2
      refine z_iload_n C dX8_upper_12 rfl 1 rfl ?_
      refine z_bipush (v := 10) C dX8_upper_13 (by decide) ?_
      refine z_idiv C dX8_upper_15 (by decide) ?_
      refine z_istore_n (lv' := [(2, .int (v2 / 10)), (1, .int v1), (3, .int v3)]) C dX8_upper_16 rfl (by decide) rfl ?_
      refine z_iinc (v := (v3 + (-1))) (lv' := [(3, .int (v3 + (-1))), (2, .int (v2 / 10)), (1, .int v1)]) C dX8_upper_17 2 rfl rfl (by decide) rfl ?_
      refine z_goto (tgt := 7) C dX8_upper_20 (by decide) ?_
      exact z_sub C [2, 1, 0] rfl (ih v1 (v2 / 10) (v3 + (-1)) hF)
set_option maxHeartbeats 4000000 in
set_option maxRecDepth 100000 in
theorem c_X8_upper (l : Launch) (D : va_G) (cI cJ cZ : ClassId) (x1 : Int32) (x2 : Int32) (u : Int32) (hF : f_X8_upper x1 x2 = some u) : zM l yX8_upper wsX8_upper ({ frames := 1, cells := 0, slots := 0, locals := 22 }) D (zTy cI cJ cZ) [.int x1, .int x2] [] (some (.int u)) [] := by
  refine z_body (cc := cX8_upper) (maxL := 4) (rty := (some .int)) (own := RX8) (lv := [(0, .int x1), (1, .int x2)]) (by decide +kernel) rfl rfl (Nat.le_of_ble_eq_true rfl) rfl (fun p e s m args below meth c A C => ?_)
  refine z_iload_n C dX8_upper_0 rfl 0 rfl ?_
  refine z_istore_n (lv' := [(2, .int x1), (0, .int x1), (1, .int x2)]) C dX8_upper_1 rfl (by decide) rfl ?_
  refine z_iload_n C dX8_upper_2 rfl 1 rfl ?_
  obtain ⟨r1, er1, hF⟩ := zbd hF
  refine z_callS (n := 1) (As := [.int x1]) C (c_X8_digits l D cI cJ cZ x1 r1 er1) gX8_upper_X8_digits rfl rfl rfl (by decide +kernel) ⟨Nat.le_of_ble_eq_true rfl, Nat.le_of_ble_eq_true rfl⟩ ⟨Nat.zero_le _, Nat.zero_le _⟩ rfl rfl (Nat.le_of_ble_eq_true rfl) dX8_upper_3 ?_
  refine z_istore_n (lv' := [(3, .int r1), (2, .int x1), (0, .int x1), (1, .int x2)]) C dX8_upper_6 rfl (by decide) rfl ?_
  exact z_sub C [3, 1, 0] rfl (c_X8_upper_j7 l D cI cJ cZ u C 600 x2 x1 r1 hF)
set_option maxHeartbeats 4000000 in
set_option maxRecDepth 100000 in
theorem c_X8_digit (l : Launch) (D : va_G) (cI cJ cZ : ClassId) (x1 : Int32) (x2 : Int32) (u : Int32) (hF : f_X8_digit x1 x2 = some u) : zM l yX8_digit wsX8_digit ({ frames := 2, cells := 0, slots := 0, locals := 45 }) D (zTy cI cJ cZ) [.int x1, .int x2] [] (some (.int u)) [] := by
  refine z_body (cc := cX8_digit) (maxL := 2) (rty := (some .int)) (own := RX8) (lv := [(0, .int x1), (1, .int x2)]) (by decide +kernel) rfl rfl (Nat.le_of_ble_eq_true rfl) rfl (fun p e s m args below meth c A C => ?_)
  refine z_iload_n C dX8_digit_0 rfl 0 rfl ?_
  refine z_iload_n C dX8_digit_1 rfl 1 rfl ?_
  refine z_iconst (v := 1) C dX8_digit_2 (by decide) ?_
  refine z_iadd C dX8_digit_3 ?_
  obtain ⟨r1, er1, hF⟩ := zbd hF
  refine z_callS (n := 2) (As := [.int x1, .int (x2 + 1)]) C (c_X8_upper l D cI cJ cZ x1 (x2 + 1) r1 er1) gX8_digit_X8_upper rfl rfl rfl (by decide +kernel) ⟨Nat.le_of_ble_eq_true rfl, Nat.le_of_ble_eq_true rfl⟩ ⟨Nat.zero_le _, Nat.zero_le _⟩ rfl rfl (Nat.le_of_ble_eq_true rfl) dX8_digit_4 ?_
  refine z_bipush (v := 10) C dX8_digit_7 (by decide) ?_
  refine z_irem C dX8_digit_9 (by decide) ?_
  have hu := Option.some.inj hF
  subst hu
  exact z_iret C dX8_digit_10 rfl rfl
set_option maxHeartbeats 4000000 in
set_option maxRecDepth 100000 in
theorem c_X8_isWritten_j21 (l : Launch) (D : va_G) (cI cJ cZ : ClassId) (u : Int32) {p : Program} {e : Env} {s : State} {m : MethodId} {args : Array Value} {below : List Frame} {meth : Method} {c : Code} {A : Nat → Prop} (C : zC p s m args meth c cX8_isWritten 4 (some .boolean) RX8 wsX8_isWritten D (zTy cI cJ cZ) A s.heap) : ∀ (n : Nat) (v1 : Int32) (v2 : Int32) (v3 : Int32), f_X8_isWritten_21 n v1 v2 v3 = some u → zW p l e { frames := 1, cells := 0, slots := 0, locals := 22 } s m args below meth c 4 D A s.heap 0 0 (MQ below (zQ D (zTy cI cJ cZ) (some (.int u)) [] A) args s 0 0 A) [] [(1, .int v1), (2, .int v2), (3, .int v3)] 21 [] := by
  intro n
  induction n with
  | zero => intro v1 v2 v3 hF; exact absurd (show none = some u from hF) (fun q => nomatch q)
  | succ n ih =>
    intro v1 v2 v3 hF
    refine z_iload_n C dX8_isWritten_21 rfl 2 rfl ?_
    refine z_if_le (tgt := 59) C dX8_isWritten_22 (by decide) (fun c2 => ?_) (fun c2 => ?_)
    · have hF := zif hF c2
      refine z_iload_n C dX8_isWritten_59 rfl 1 rfl ?_
      obtain ⟨g3, hF⟩ := zbo_some hF
      have hu := Option.some.inj hF
      subst hu
      exact z_iret C dX8_isWritten_60 rfl g3
    · have hF := zelse hF c2
      refine z_iload_n C dX8_isWritten_25 rfl 1 rfl ?_
      refine z_if_eq (tgt := 49) C dX8_isWritten_26 (by decide) (fun c4 => ?_) (fun c4 => ?_)
      · have hF := zif hF c4
        refine z_iconst (v := 0) C dX8_isWritten_49 (by decide) ?_
        refine z_istore_n (lv' := [(2, .int 0), (1, .int v1), (3, .int v3)]) C dX8_isWritten_50 rfl (by decide) rfl ?_
        refine z_iload_n C dX8_isWritten_51 rfl 2 rfl ?_
        refine z_bipush (v := 10) C dX8_isWritten_52 (by decide) ?_
        refine z_idiv C dX8_isWritten_54 (by decide) ?_
        refine z_istore_n (lv' := [(3, .int (v3 / 10)), (2, .int 0), (1, .int v1)]) C dX8_isWritten_55 rfl (by decide) rfl ?_
        refine z_goto (tgt := 21) C dX8_isWritten_56 (by decide) ?_
        exact z_sub C [2, 1, 0] rfl (ih v1 0 (v3 / 10) hF)
      · have hF := zelse hF c4
        refine z_iload_n C dX8_isWritten_29 rfl 2 rfl ?_
        refine z_bipush (v := 10) C dX8_isWritten_30 (by decide) ?_
        refine z_irem C dX8_isWritten_32 (by decide) ?_
        refine z_iconst (v := 1) C dX8_isWritten_33 (by decide) ?_
        refine z_icmp_lt (tgt := 49) C dX8_isWritten_34 (by decide) (fun c5 => ?_) (fun c5 => ?_)
        · have hF := zif hF c5
          refine z_iconst (v := 0) C dX8_isWritten_49 (by decide) ?_
          refine z_istore_n (lv' := [(2, .int 0), (1, .int v1), (3, .int v3)]) C dX8_isWritten_50 rfl (by decide) rfl ?_
          refine z_iload_n C dX8_isWritten_51 rfl 2 rfl ?_
          refine z_bipush (v := 10) C dX8_isWritten_52 (by decide) ?_
          refine z_idiv C dX8_isWritten_54 (by decide) ?_
          refine z_istore_n (lv' := [(3, .int (v3 / 10)), (2, .int 0), (1, .int v1)]) C dX8_isWritten_55 rfl (by decide) rfl ?_
          refine z_goto (tgt := 21) C dX8_isWritten_56 (by decide) ?_
          exact z_sub C [2, 1, 0] rfl (ih v1 0 (v3 / 10) hF)
        · have hF := zelse hF c5
          refine z_iload_n C dX8_isWritten_37 rfl 2 rfl ?_
          refine z_bipush (v := 10) C dX8_isWritten_38 (by decide) ?_
          refine z_irem C dX8_isWritten_40 (by decide) ?_
          refine z_iload_n C dX8_isWritten_41 rfl 0 rfl ?_
          refine z_icmp_gt (tgt := 49) C dX8_isWritten_42 (by decide) (fun c6 => ?_) (fun c6 => ?_)
          · have hF := zif hF c6
            refine z_iconst (v := 0) C dX8_isWritten_49 (by decide) ?_
            refine z_istore_n (lv' := [(2, .int 0), (1, .int v1), (3, .int v3)]) C dX8_isWritten_50 rfl (by decide) rfl ?_
            refine z_iload_n C dX8_isWritten_51 rfl 2 rfl ?_
            refine z_bipush (v := 10) C dX8_isWritten_52 (by decide) ?_
            refine z_idiv C dX8_isWritten_54 (by decide) ?_
            refine z_istore_n (lv' := [(3, .int (v3 / 10)), (2, .int 0), (1, .int v1)]) C dX8_isWritten_55 rfl (by decide) rfl ?_
            refine z_goto (tgt := 21) C dX8_isWritten_56 (by decide) ?_
            exact z_sub C [2, 1, 0] rfl (ih v1 0 (v3 / 10) hF)
          · have hF := zelse hF c6
            refine z_iconst (v := 1) C dX8_isWritten_45 (by decide) ?_
            refine z_goto (tgt := 50) C dX8_isWritten_46 (by decide) ?_
            refine z_istore_n (lv' := [(2, .int 1), (1, .int v1), (3, .int v3)]) C dX8_isWritten_50 rfl (by decide) rfl ?_
            refine z_iload_n C dX8_isWritten_51 rfl 2 rfl ?_
            refine z_bipush (v := 10) C dX8_isWritten_52 (by decide) ?_
            refine z_idiv C dX8_isWritten_54 (by decide) ?_
            refine z_istore_n (lv' := [(3, .int (v3 / 10)), (2, .int 1), (1, .int v1)]) C dX8_isWritten_55 rfl (by decide) rfl ?_
            refine z_goto (tgt := 21) C dX8_isWritten_56 (by decide) ?_
            exact z_sub C [2, 1, 0] rfl (ih v1 1 (v3 / 10) hF)
set_option maxHeartbeats 4000000 in
set_option maxRecDepth 100000 in
theorem c_X8_isWritten (l : Launch) (D : va_G) (cI cJ cZ : ClassId) (x1 : Int32) (x2 : Int32) (u : Int32) (hF : f_X8_isWritten x1 x2 = some u) : zM l yX8_isWritten wsX8_isWritten ({ frames := 1, cells := 0, slots := 0, locals := 22 }) D (zTy cI cJ cZ) [.int x1, .int x2] [] (some (.int u)) [] := by
  refine z_body (cc := cX8_isWritten) (maxL := 4) (rty := (some .boolean)) (own := RX8) (lv := [(0, .int x1), (1, .int x2)]) (by decide +kernel) rfl rfl (Nat.le_of_ble_eq_true rfl) rfl (fun p e s m args below meth c A C => ?_)
  refine z_iload_n C dX8_isWritten_0 rfl 0 rfl ?_
  refine z_if_le (tgt := 17) C dX8_isWritten_1 (by decide) (fun c1 => ?_) (fun c1 => ?_)
  · have hF := zif hF c1
    refine z_iconst (v := 0) C dX8_isWritten_17 (by decide) ?_
    refine z_istore_n (lv' := [(2, .int 0), (0, .int x1), (1, .int x2)]) C dX8_isWritten_18 rfl (by decide) rfl ?_
    refine z_iload_n C dX8_isWritten_19 rfl 1 rfl ?_
    refine z_istore_n (lv' := [(3, .int x1), (2, .int 0), (0, .int x1), (1, .int x2)]) C dX8_isWritten_20 rfl (by decide) rfl ?_
    exact z_sub C [3, 1, 0] rfl (c_X8_isWritten_j21 l D cI cJ cZ u C 600 x2 0 x1 hF)
  · have hF := zelse hF c1
    refine z_iload_n C dX8_isWritten_4 rfl 0 rfl ?_
    obtain ⟨r7, er7, hF⟩ := zbd hF
    refine z_callS (n := 1) (As := [.int x1]) C (c_X8_digits l D cI cJ cZ x1 r7 er7) gX8_isWritten_X8_digits rfl rfl rfl (by decide +kernel) ⟨Nat.le_of_ble_eq_true rfl, Nat.le_of_ble_eq_true rfl⟩ ⟨Nat.zero_le _, Nat.zero_le _⟩ rfl rfl (Nat.le_of_ble_eq_true rfl) dX8_isWritten_5 ?_
    refine z_bipush (v := 6) C dX8_isWritten_8 (by decide) ?_
    refine z_icmp_gt (tgt := 17) C dX8_isWritten_10 (by decide) (fun c8 => ?_) (fun c8 => ?_)
    · have hF := zif hF c8
      refine z_iconst (v := 0) C dX8_isWritten_17 (by decide) ?_
      refine z_istore_n (lv' := [(2, .int 0), (0, .int x1), (1, .int x2)]) C dX8_isWritten_18 rfl (by decide) rfl ?_
      refine z_iload_n C dX8_isWritten_19 rfl 1 rfl ?_
      refine z_istore_n (lv' := [(3, .int x1), (2, .int 0), (0, .int x1), (1, .int x2)]) C dX8_isWritten_20 rfl (by decide) rfl ?_
      exact z_sub C [3, 1, 0] rfl (c_X8_isWritten_j21 l D cI cJ cZ u C 600 x2 0 x1 hF)
    · have hF := zelse hF c8
      refine z_iconst (v := 1) C dX8_isWritten_13 (by decide) ?_
      refine z_goto (tgt := 18) C dX8_isWritten_14 (by decide) ?_
      refine z_istore_n (lv' := [(2, .int 1), (0, .int x1), (1, .int x2)]) C dX8_isWritten_18 rfl (by decide) rfl ?_
      refine z_iload_n C dX8_isWritten_19 rfl 1 rfl ?_
      refine z_istore_n (lv' := [(3, .int x1), (2, .int 1), (0, .int x1), (1, .int x2)]) C dX8_isWritten_20 rfl (by decide) rfl ?_
      exact z_sub C [3, 1, 0] rfl (c_X8_isWritten_j21 l D cI cJ cZ u C 600 x2 1 x1 hF)
set_option maxHeartbeats 4000000 in
set_option maxRecDepth 100000 in
theorem c_X8_isPath (l : Launch) (D : va_G) (cI cJ cZ : ClassId) (x1 : Int32) (u : Int32) (hF : f_X8_isPath x1 = some u) : zM l yX8_isPath wsX8_isPath ({ frames := 2, cells := 0, slots := 0, locals := 45 }) D (zTy cI cJ cZ) [.int x1] [] (some (.int u)) [] := by
  refine z_body (cc := cX8_isPath) (maxL := 1) (rty := (some .boolean)) (own := RX8) (lv := [(0, .int x1)]) (by decide +kernel) rfl rfl (Nat.le_of_ble_eq_true rfl) rfl (fun p e s m args below meth c A C => ?_)
  refine z_iload_n C dX8_isPath_0 rfl 0 rfl ?_
  refine z_bipush (v := 8) C dX8_isPath_1 (by decide) ?_
  obtain ⟨r1, er1, hF⟩ := zbd hF
  refine z_callS (n := 2) (As := [.int x1, .int 8]) C (c_X8_isWritten l D cI cJ cZ x1 8 r1 er1) gX8_isPath_X8_isWritten rfl rfl rfl (by decide +kernel) ⟨Nat.le_of_ble_eq_true rfl, Nat.le_of_ble_eq_true rfl⟩ ⟨Nat.zero_le _, Nat.zero_le _⟩ rfl rfl (Nat.le_of_ble_eq_true rfl) dX8_isPath_3 ?_
  obtain ⟨g2, hF⟩ := zbo_some hF
  have hu := Option.some.inj hF
  subst hu
  exact z_iret C dX8_isPath_6 rfl g2
set_option maxHeartbeats 4000000 in
set_option maxRecDepth 100000 in
theorem c_X8_isBelow (l : Launch) (D : va_G) (cI cJ cZ : ClassId) (x1 : Int32) (x2 : Int32) (u : Int32) (hF : f_X8_isBelow x1 x2 = some u) : zM l yX8_isBelow wsX8_isBelow ({ frames := 2, cells := 0, slots := 0, locals := 45 }) D (zTy cI cJ cZ) [.int x1, .int x2] [] (some (.int u)) [] := by
  refine z_body (cc := cX8_isBelow) (maxL := 2) (rty := (some .boolean)) (own := RX8) (lv := [(0, .int x1), (1, .int x2)]) (by decide +kernel) rfl rfl (Nat.le_of_ble_eq_true rfl) rfl (fun p e s m args below meth c A C => ?_)
  refine z_iload_n C dX8_isBelow_0 rfl 0 rfl ?_
  obtain ⟨r1, er1, hF⟩ := zbd hF
  refine z_callS (n := 1) (As := [.int x1]) C (c_X8_digits l D cI cJ cZ x1 r1 er1) gX8_isBelow_X8_digits rfl rfl rfl (by decide +kernel) ⟨Nat.le_of_ble_eq_true rfl, Nat.le_of_ble_eq_true rfl⟩ ⟨Nat.zero_le _, Nat.zero_le _⟩ rfl rfl (Nat.le_of_ble_eq_true rfl) dX8_isBelow_1 ?_
  refine z_iload_n C dX8_isBelow_4 rfl 1 rfl ?_
  obtain ⟨r2, er2, hF⟩ := zbd hF
  refine z_callS (n := 1) (As := [.int x2]) C (c_X8_digits l D cI cJ cZ x2 r2 er2) gX8_isBelow_X8_digits rfl rfl rfl (by decide +kernel) ⟨Nat.le_of_ble_eq_true rfl, Nat.le_of_ble_eq_true rfl⟩ ⟨Nat.zero_le _, Nat.zero_le _⟩ rfl rfl (Nat.le_of_ble_eq_true rfl) dX8_isBelow_5 ?_
  refine z_icmp_lt (tgt := 27) C dX8_isBelow_8 (by decide) (fun c3 => ?_) (fun c3 => ?_)
  · have hF := zif hF c3
    refine z_iconst (v := 0) C dX8_isBelow_27 (by decide) ?_
    have hu := Option.some.inj hF
    subst hu
    exact z_iret C dX8_isBelow_28 rfl z_b0
  · have hF := zelse hF c3
    refine z_iload_n C dX8_isBelow_11 rfl 0 rfl ?_
    refine z_iload_n C dX8_isBelow_12 rfl 1 rfl ?_
    obtain ⟨r4, er4, hF⟩ := zbd hF
    refine z_callS (n := 1) (As := [.int x2]) C (c_X8_digits l D cI cJ cZ x2 r4 er4) gX8_isBelow_X8_digits rfl rfl rfl (by decide +kernel) ⟨Nat.le_of_ble_eq_true rfl, Nat.le_of_ble_eq_true rfl⟩ ⟨Nat.zero_le _, Nat.zero_le _⟩ rfl rfl (Nat.le_of_ble_eq_true rfl) dX8_isBelow_13 ?_
    obtain ⟨r5, er5, hF⟩ := zbd hF
    refine z_callS (n := 2) (As := [.int x1, .int r4]) C (c_X8_upper l D cI cJ cZ x1 r4 r5 er5) gX8_isBelow_X8_upper rfl rfl rfl (by decide +kernel) ⟨Nat.le_of_ble_eq_true rfl, Nat.le_of_ble_eq_true rfl⟩ ⟨Nat.zero_le _, Nat.zero_le _⟩ rfl rfl (Nat.le_of_ble_eq_true rfl) dX8_isBelow_16 ?_
    refine z_iload_n C dX8_isBelow_19 rfl 1 rfl ?_
    refine z_icmp_ne (tgt := 27) C dX8_isBelow_20 (by decide) (fun c6 => ?_) (fun c6 => ?_)
    · have hF := zelse hF c6
      refine z_iconst (v := 0) C dX8_isBelow_27 (by decide) ?_
      have hu := Option.some.inj hF
      subst hu
      exact z_iret C dX8_isBelow_28 rfl z_b0
    · have hF := zif hF c6
      refine z_iconst (v := 1) C dX8_isBelow_23 (by decide) ?_
      refine z_goto (tgt := 28) C dX8_isBelow_24 (by decide) ?_
      have hu := Option.some.inj hF
      subst hu
      exact z_iret C dX8_isBelow_28 rfl z_b1
theorem kX8_fits_13 : Cond.fieldLink RX8 13 "SecretBrokerModel" "pattern" "[I" ∈ wsX8_fits := by decide +kernel
theorem kX8_fits_16 : Cond.fieldLink RX8 16 "SecretBrokerModel" "open" "[Z" ∈ wsX8_fits := by decide +kernel
theorem hX8_fits_X8 : ∀ w ∈ wsX80, w ∈ wsX8_fits := by decide +kernel
set_option maxHeartbeats 4000000 in
set_option maxRecDepth 100000 in
theorem c_X8_fits_j53 (l : Launch) (D : va_G) (cI cJ cZ : ClassId) (a8 : Nat → Nat) (S : SS) (V : SL) (u : Int32) {p : Program} {e : Env} {s : State} {m : MethodId} {args : Array Value} {below : List Frame} {meth : Method} {c : Code} {A : Nat → Prop} (C : zC p s m args meth c cX8_fits 7 (some .boolean) RX8 wsX8_fits D (zTy cI cJ cZ) A s.heap) : ∀ (n : Nat) (v1 : Int32) (v2 : Int32) (v3 : Int32) (v4 : Int32) (v5 : Int32), f_X8_fits_53 S n v1 v2 v3 v4 v5 = some u → zW p l e { frames := 3, cells := 0, slots := 0, locals := 66 } s m args below meth c 7 D A s.heap 0 0 (MQ below (zQ D (zTy cI cJ cZ) (some (.int u)) (zwX8 cI cJ cZ a8 S V) A) args s 0 0 A) (zwX8 cI cJ cZ a8 S V) [(0, .ref (a8 0)), (1, .int v1), (2, .int v2), (3, .int v3), (4, .int v4), (5, .int v5)] 53 [] := by
  intro n
  induction n with
  | zero => intro v1 v2 v3 v4 v5 hF; exact absurd (show none = some u from hF) (fun q => nomatch q)
  | succ n ih =>
    intro v1 v2 v3 v4 v5 hF
    refine z_iload C dX8_fits_53 5 rfl ?_
    refine z_iload_n C dX8_fits_55 rfl 3 rfl ?_
    refine z_icmp_ge (tgt := 108) C dX8_fits_56 (by decide) (fun c7 => ?_) (fun c7 => ?_)
    · have hF := zif hF c7
      refine z_iload C dX8_fits_108 4 rfl ?_
      obtain ⟨g8, hF⟩ := zbo_some hF
      have hu := Option.some.inj hF
      subst hu
      exact z_iret C dX8_fits_110 rfl g8
    · have hF := zelse hF c7
      refine z_iload C dX8_fits_59 4 rfl ?_
      refine z_if_eq (tgt := 108) C dX8_fits_61 (by decide) (fun c9 => ?_) (fun c9 => ?_)
      · have hF := zif hF c9
        refine z_iload C dX8_fits_108 4 rfl ?_
        obtain ⟨g10, hF⟩ := zbo_some hF
        have hu := Option.some.inj hF
        subst hu
        exact z_iret C dX8_fits_110 rfl g10
      · have hF := zelse hF c9
        refine z_aload_n C dX8_fits_64 rfl 0 rfl ?_
        refine z_get (ref := "SecretBrokerModel") (v := .ref (a8 2)) C hX8_fits_X8 0 rfl rfl 4 (by decide) kX8_fits_13 (fun _ h9 => h9) rfl dX8_fits_65 ?_
        refine z_iload_n C dX8_fits_68 rfl 1 rfl ?_
        obtain ⟨g11, hF⟩ := zix_some hF
        refine z_iald (v := ((S 4) v1.toNatClampNeg)) C g11 2 rfl rfl rfl dX8_fits_69 ?_
        refine z_iload C dX8_fits_70 5 rfl ?_
        obtain ⟨r12, er12, hF⟩ := zbd hF
        refine z_callS (n := 2) (As := [.int ((S 4) v1.toNatClampNeg), .int v5]) C (c_X8_digit l D cI cJ cZ ((S 4) v1.toNatClampNeg) v5 r12 er12) gX8_fits_X8_digit rfl rfl rfl (by decide +kernel) ⟨Nat.le_of_ble_eq_true rfl, Nat.le_of_ble_eq_true rfl⟩ ⟨Nat.zero_le _, Nat.zero_le _⟩ rfl rfl (Nat.le_of_ble_eq_true rfl) dX8_fits_72 ?_
        refine z_istore (lv' := [(6, .int r12), (0, .ref (a8 0)), (1, .int v1), (2, .int v2), (3, .int v3), (4, .int v4), (5, .int v5)]) C dX8_fits_75 (by decide) rfl ?_
        refine z_iload C dX8_fits_77 0 rfl ?_
        refine z_bipush (v := 9) C dX8_fits_79 (by decide) ?_
        refine z_icmp_eq (tgt := 95) C dX8_fits_81 (by decide) (fun c13 => ?_) (fun c13 => ?_)
        · have hF := zif hF c13
          refine z_iconst (v := 1) C dX8_fits_95 (by decide) ?_
          refine z_goto (tgt := 100) C dX8_fits_96 (by decide) ?_
          refine z_istore (lv' := [(4, .int 1), (6, .int r12), (0, .ref (a8 0)), (1, .int v1), (2, .int v2), (3, .int v3), (5, .int v5)]) C dX8_fits_100 (by decide) rfl ?_
          refine z_iinc (v := (v5 + 1)) (lv' := [(5, .int (v5 + 1)), (4, .int 1), (6, .int r12), (0, .ref (a8 0)), (1, .int v1), (2, .int v2), (3, .int v3)]) C dX8_fits_102 6 rfl rfl (by decide) rfl ?_
          refine z_goto (tgt := 53) C dX8_fits_105 (by decide) ?_
          exact z_sub C [3, 4, 5, 6, 1, 0] rfl (ih v1 v2 v3 1 (v5 + 1) hF)
        · have hF := zelse hF c13
          refine z_iload C dX8_fits_84 0 rfl ?_
          refine z_iload_n C dX8_fits_86 rfl 3 rfl ?_
          refine z_iload C dX8_fits_87 6 rfl ?_
          obtain ⟨r14, er14, hF⟩ := zbd hF
          refine z_callS (n := 2) (As := [.int v2, .int v5]) C (c_X8_digit l D cI cJ cZ v2 v5 r14 er14) gX8_fits_X8_digit rfl rfl rfl (by decide +kernel) ⟨Nat.le_of_ble_eq_true rfl, Nat.le_of_ble_eq_true rfl⟩ ⟨Nat.zero_le _, Nat.zero_le _⟩ rfl rfl (Nat.le_of_ble_eq_true rfl) dX8_fits_89 ?_
          refine z_icmp_ne (tgt := 99) C dX8_fits_92 (by decide) (fun c15 => ?_) (fun c15 => ?_)
          · have hF := zelse hF c15
            refine z_iconst (v := 0) C dX8_fits_99 (by decide) ?_
            refine z_istore (lv' := [(4, .int 0), (6, .int r12), (0, .ref (a8 0)), (1, .int v1), (2, .int v2), (3, .int v3), (5, .int v5)]) C dX8_fits_100 (by decide) rfl ?_
            refine z_iinc (v := (v5 + 1)) (lv' := [(5, .int (v5 + 1)), (4, .int 0), (6, .int r12), (0, .ref (a8 0)), (1, .int v1), (2, .int v2), (3, .int v3)]) C dX8_fits_102 6 rfl rfl (by decide) rfl ?_
            refine z_goto (tgt := 53) C dX8_fits_105 (by decide) ?_
            exact z_sub C [3, 4, 5, 6, 1, 0] rfl (ih v1 v2 v3 0 (v5 + 1) hF)
          · have hF := zif hF c15
            refine z_iconst (v := 1) C dX8_fits_95 (by decide) ?_
            refine z_goto (tgt := 100) C dX8_fits_96 (by decide) ?_
            refine z_istore (lv' := [(4, .int 1), (6, .int r12), (0, .ref (a8 0)), (1, .int v1), (2, .int v2), (3, .int v3), (5, .int v5)]) C dX8_fits_100 (by decide) rfl ?_
            refine z_iinc (v := (v5 + 1)) (lv' := [(5, .int (v5 + 1)), (4, .int 1), (6, .int r12), (0, .ref (a8 0)), (1, .int v1), (2, .int v2), (3, .int v3)]) C dX8_fits_102 6 rfl rfl (by decide) rfl ?_
            refine z_goto (tgt := 53) C dX8_fits_105 (by decide) ?_
            exact z_sub C [3, 4, 5, 6, 1, 0] rfl (ih v1 v2 v3 1 (v5 + 1) hF)
set_option maxHeartbeats 4000000 in
set_option maxRecDepth 100000 in
theorem c_X8_fits (l : Launch) (D : va_G) (cI cJ cZ : ClassId) (a8 : Nat → Nat) (S : SS) (V : SL) (x1 : Int32) (x2 : Int32) (u : Int32) (hF : f_X8_fits S x1 x2 = some u) : zM l yX8_fits wsX8_fits ({ frames := 3, cells := 0, slots := 0, locals := 66 }) D (zTy cI cJ cZ) [.ref (a8 0), .int x1, .int x2] (zwX8 cI cJ cZ a8 S V) (some (.int u)) (zwX8 cI cJ cZ a8 S V) := by
  refine z_body (cc := cX8_fits) (maxL := 7) (rty := (some .boolean)) (own := RX8) (lv := [(0, .ref (a8 0)), (1, .int x1), (2, .int x2)]) (by decide +kernel) rfl rfl (Nat.le_of_ble_eq_true rfl) rfl (fun p e s m args below meth c A C => ?_)
  refine z_aload_n C dX8_fits_0 rfl 0 rfl ?_
  refine z_get (ref := "SecretBrokerModel") (v := .ref (a8 2)) C hX8_fits_X8 0 rfl rfl 4 (by decide) kX8_fits_13 (fun _ h9 => h9) rfl dX8_fits_1 ?_
  refine z_iload_n C dX8_fits_4 rfl 1 rfl ?_
  obtain ⟨g1, hF⟩ := zix_some hF
  refine z_iald (v := ((S 4) x1.toNatClampNeg)) C g1 2 rfl rfl rfl dX8_fits_5 ?_
  obtain ⟨r2, er2, hF⟩ := zbd hF
  refine z_callS (n := 1) (As := [.int ((S 4) x1.toNatClampNeg)]) C (c_X8_digits l D cI cJ cZ ((S 4) x1.toNatClampNeg) r2 er2) gX8_fits_X8_digits rfl rfl rfl (by decide +kernel) ⟨Nat.le_of_ble_eq_true rfl, Nat.le_of_ble_eq_true rfl⟩ ⟨Nat.zero_le _, Nat.zero_le _⟩ rfl rfl (Nat.le_of_ble_eq_true rfl) dX8_fits_6 ?_
  refine z_istore_n (lv' := [(3, .int r2), (0, .ref (a8 0)), (1, .int x1), (2, .int x2)]) C dX8_fits_9 rfl (by decide) rfl ?_
  refine z_aload_n C dX8_fits_10 rfl 1 rfl ?_
  refine z_get (ref := "SecretBrokerModel") (v := .ref (a8 3)) C hX8_fits_X8 0 rfl rfl 5 (by decide) kX8_fits_16 (fun _ h9 => h9) rfl dX8_fits_11 ?_
  refine z_iload_n C dX8_fits_14 rfl 2 rfl ?_
  obtain ⟨g3, hF⟩ := zix_some hF
  refine z_zald (v := ((S 5) x1.toNatClampNeg)) C g3 3 rfl rfl rfl dX8_fits_15 ?_
  refine z_if_eq (tgt := 35) C dX8_fits_16 (by decide) (fun c4 => ?_) (fun c4 => ?_)
  · have hF := zif hF c4
    refine z_iload_n C dX8_fits_35 rfl 3 rfl ?_
    obtain ⟨r5, er5, hF⟩ := zbd hF
    refine z_callS (n := 1) (As := [.int x2]) C (c_X8_digits l D cI cJ cZ x2 r5 er5) gX8_fits_X8_digits rfl rfl rfl (by decide +kernel) ⟨Nat.le_of_ble_eq_true rfl, Nat.le_of_ble_eq_true rfl⟩ ⟨Nat.zero_le _, Nat.zero_le _⟩ rfl rfl (Nat.le_of_ble_eq_true rfl) dX8_fits_36 ?_
    refine z_iload_n C dX8_fits_39 rfl 0 rfl ?_
    refine z_icmp_ne (tgt := 47) C dX8_fits_40 (by decide) (fun c6 => ?_) (fun c6 => ?_)
    · have hF := zelse hF c6
      refine z_iconst (v := 0) C dX8_fits_47 (by decide) ?_
      refine z_istore (lv' := [(4, .int 0), (3, .int r2), (0, .ref (a8 0)), (1, .int x1), (2, .int x2)]) C dX8_fits_48 (by decide) rfl ?_
      refine z_iconst (v := 0) C dX8_fits_50 (by decide) ?_
      refine z_istore (lv' := [(5, .int 0), (4, .int 0), (3, .int r2), (0, .ref (a8 0)), (1, .int x1), (2, .int x2)]) C dX8_fits_51 (by decide) rfl ?_
      exact z_sub C [3, 4, 5, 2, 1, 0] rfl (c_X8_fits_j53 l D cI cJ cZ a8 S V u C 600 x1 x2 r2 0 0 hF)
    · have hF := zif hF c6
      refine z_iconst (v := 1) C dX8_fits_43 (by decide) ?_
      refine z_goto (tgt := 48) C dX8_fits_44 (by decide) ?_
      refine z_istore (lv' := [(4, .int 1), (3, .int r2), (0, .ref (a8 0)), (1, .int x1), (2, .int x2)]) C dX8_fits_48 (by decide) rfl ?_
      refine z_iconst (v := 0) C dX8_fits_50 (by decide) ?_
      refine z_istore (lv' := [(5, .int 0), (4, .int 1), (3, .int r2), (0, .ref (a8 0)), (1, .int x1), (2, .int x2)]) C dX8_fits_51 (by decide) rfl ?_
      exact z_sub C [3, 4, 5, 2, 1, 0] rfl (c_X8_fits_j53 l D cI cJ cZ a8 S V u C 600 x1 x2 r2 1 0 hF)
  · have hF := zelse hF c4
    refine z_iload_n C dX8_fits_19 rfl 3 rfl ?_
    obtain ⟨r16, er16, hF⟩ := zbd hF
    refine z_callS (n := 1) (As := [.int x2]) C (c_X8_digits l D cI cJ cZ x2 r16 er16) gX8_fits_X8_digits rfl rfl rfl (by decide +kernel) ⟨Nat.le_of_ble_eq_true rfl, Nat.le_of_ble_eq_true rfl⟩ ⟨Nat.zero_le _, Nat.zero_le _⟩ rfl rfl (Nat.le_of_ble_eq_true rfl) dX8_fits_20 ?_
    refine z_iload_n C dX8_fits_23 rfl 0 rfl ?_
    refine z_icmp_lt (tgt := 31) C dX8_fits_24 (by decide) (fun c17 => ?_) (fun c17 => ?_)
    · have hF := zif hF c17
      refine z_iconst (v := 0) C dX8_fits_31 (by decide) ?_
      refine z_goto (tgt := 48) C dX8_fits_32 (by decide) ?_
      refine z_istore (lv' := [(4, .int 0), (3, .int r2), (0, .ref (a8 0)), (1, .int x1), (2, .int x2)]) C dX8_fits_48 (by decide) rfl ?_
      refine z_iconst (v := 0) C dX8_fits_50 (by decide) ?_
      refine z_istore (lv' := [(5, .int 0), (4, .int 0), (3, .int r2), (0, .ref (a8 0)), (1, .int x1), (2, .int x2)]) C dX8_fits_51 (by decide) rfl ?_
      exact z_sub C [3, 4, 5, 2, 1, 0] rfl (c_X8_fits_j53 l D cI cJ cZ a8 S V u C 600 x1 x2 r2 0 0 hF)
    · have hF := zelse hF c17
      refine z_iconst (v := 1) C dX8_fits_27 (by decide) ?_
      refine z_goto (tgt := 48) C dX8_fits_28 (by decide) ?_
      refine z_istore (lv' := [(4, .int 1), (3, .int r2), (0, .ref (a8 0)), (1, .int x1), (2, .int x2)]) C dX8_fits_48 (by decide) rfl ?_
      refine z_iconst (v := 0) C dX8_fits_50 (by decide) ?_
      refine z_istore (lv' := [(5, .int 0), (4, .int 1), (3, .int r2), (0, .ref (a8 0)), (1, .int x1), (2, .int x2)]) C dX8_fits_51 (by decide) rfl ?_
      exact z_sub C [3, 4, 5, 2, 1, 0] rfl (c_X8_fits_j53 l D cI cJ cZ a8 S V u C 600 x1 x2 r2 1 0 hF)
theorem kX8_goesAhead_13 : Cond.fieldLink RX8 13 "SecretBrokerModel" "pattern" "[I" ∈ wsX8_goesAhead := by decide +kernel
theorem kX8_goesAhead_16 : Cond.fieldLink RX8 16 "SecretBrokerModel" "open" "[Z" ∈ wsX8_goesAhead := by decide +kernel
theorem hX8_goesAhead_X8 : ∀ w ∈ wsX80, w ∈ wsX8_goesAhead := by decide +kernel
set_option maxHeartbeats 4000000 in
set_option maxRecDepth 100000 in
theorem c_X8_goesAhead_j75 (l : Launch) (D : va_G) (cI cJ cZ : ClassId) (a8 : Nat → Nat) (S : SS) (V : SL) (u : Int32) {p : Program} {e : Env} {s : State} {m : MethodId} {args : Array Value} {below : List Frame} {meth : Method} {c : Code} {A : Nat → Prop} (C : zC p s m args meth c cX8_goesAhead 6 (some .boolean) RX8 wsX8_goesAhead D (zTy cI cJ cZ) A s.heap) : ∀ (n : Nat) (v1 : Int32) (v2 : Int32) (v3 : Int32) (v4 : Int32), f_X8_goesAhead_75 S n v1 v2 v3 v4 = some u → zW p l e { frames := 3, cells := 0, slots := 0, locals := 66 } s m args below meth c 6 D A s.heap 0 0 (MQ below (zQ D (zTy cI cJ cZ) (some (.int u)) (zwX8 cI cJ cZ a8 S V) A) args s 0 0 A) (zwX8 cI cJ cZ a8 S V) [(0, .ref (a8 0)), (1, .int v1), (2, .int v2), (3, .int v3), (4, .int v4)] 75 [] := by
  intro n
  induction n with
  | zero => intro v1 v2 v3 v4 hF; exact absurd (show none = some u from hF) (fun q => nomatch q)
  | succ n ih =>
    intro v1 v2 v3 v4 hF
    refine z_iload C dX8_goesAhead_75 4 rfl ?_
    refine z_iload_n C dX8_goesAhead_77 rfl 3 rfl ?_
    refine z_icmp_ge (tgt := 147) C dX8_goesAhead_78 (by decide) (fun c9 => ?_) (fun c9 => ?_)
    · have hF := zif hF c9
      refine z_iconst (v := 0) C dX8_goesAhead_147 (by decide) ?_
      have hu := Option.some.inj hF
      subst hu
      exact z_iret C dX8_goesAhead_148 rfl z_b0
    · have hF := zelse hF c9
      refine z_aload_n C dX8_goesAhead_81 rfl 0 rfl ?_
      refine z_get (ref := "SecretBrokerModel") (v := .ref (a8 2)) C hX8_goesAhead_X8 0 rfl rfl 4 (by decide) kX8_goesAhead_13 (fun _ h9 => h9) rfl dX8_goesAhead_82 ?_
      refine z_iload_n C dX8_goesAhead_85 rfl 1 rfl ?_
      obtain ⟨g10, hF⟩ := zix_some hF
      refine z_iald (v := ((S 4) v1.toNatClampNeg)) C g10 2 rfl rfl rfl dX8_goesAhead_86 ?_
      refine z_iload C dX8_goesAhead_87 4 rfl ?_
      obtain ⟨r11, er11, hF⟩ := zbd hF
      refine z_callS (n := 2) (As := [.int ((S 4) v1.toNatClampNeg), .int v4]) C (c_X8_digit l D cI cJ cZ ((S 4) v1.toNatClampNeg) v4 r11 er11) gX8_goesAhead_X8_digit rfl rfl rfl (by decide +kernel) ⟨Nat.le_of_ble_eq_true rfl, Nat.le_of_ble_eq_true rfl⟩ ⟨Nat.zero_le _, Nat.zero_le _⟩ rfl rfl (Nat.le_of_ble_eq_true rfl) dX8_goesAhead_89 ?_
      refine z_bipush (v := 9) C dX8_goesAhead_92 (by decide) ?_
      refine z_icmp_ne (tgt := 101) C dX8_goesAhead_94 (by decide) (fun c12 => ?_) (fun c12 => ?_)
      · have hF := zelse hF c12
        refine z_iconst (v := 0) C dX8_goesAhead_101 (by decide) ?_
        refine z_istore (lv' := [(5, .int 0), (0, .ref (a8 0)), (1, .int v1), (2, .int v2), (3, .int v3), (4, .int v4)]) C dX8_goesAhead_102 (by decide) rfl ?_
        refine z_iload C dX8_goesAhead_104 0 rfl ?_
        refine z_aload_n C dX8_goesAhead_106 rfl 1 rfl ?_
        refine z_get (ref := "SecretBrokerModel") (v := .ref (a8 2)) C hX8_goesAhead_X8 0 rfl rfl 4 (by decide) kX8_goesAhead_13 (fun _ h9 => h9) rfl dX8_goesAhead_107 ?_
        refine z_iload_n C dX8_goesAhead_110 rfl 3 rfl ?_
        obtain ⟨g13, hF⟩ := zix_some hF
        refine z_iald (v := ((S 4) v2.toNatClampNeg)) C g13 2 rfl rfl rfl dX8_goesAhead_111 ?_
        refine z_iload C dX8_goesAhead_112 5 rfl ?_
        obtain ⟨r14, er14, hF⟩ := zbd hF
        refine z_callS (n := 2) (As := [.int ((S 4) v2.toNatClampNeg), .int v4]) C (c_X8_digit l D cI cJ cZ ((S 4) v2.toNatClampNeg) v4 r14 er14) gX8_goesAhead_X8_digit rfl rfl rfl (by decide +kernel) ⟨Nat.le_of_ble_eq_true rfl, Nat.le_of_ble_eq_true rfl⟩ ⟨Nat.zero_le _, Nat.zero_le _⟩ rfl rfl (Nat.le_of_ble_eq_true rfl) dX8_goesAhead_114 ?_
        refine z_bipush (v := 9) C dX8_goesAhead_117 (by decide) ?_
        refine z_icmp_ne (tgt := 126) C dX8_goesAhead_119 (by decide) (fun c15 => ?_) (fun c15 => ?_)
        · have hF := zelse hF c15
          refine z_iconst (v := 0) C dX8_goesAhead_126 (by decide) ?_
          refine z_icmp_eq (tgt := 141) C dX8_goesAhead_127 (by decide) (fun _ => ?_) (fun c0 => absurd c0 (by decide))
          refine z_iinc (v := (v4 + 1)) (lv' := [(4, .int (v4 + 1)), (5, .int 0), (0, .ref (a8 0)), (1, .int v1), (2, .int v2), (3, .int v3)]) C dX8_goesAhead_141 5 rfl rfl (by decide) rfl ?_
          refine z_goto (tgt := 75) C dX8_goesAhead_144 (by decide) ?_
          exact z_sub C [2, 3, 4, 5, 0] rfl (ih v1 v2 v3 (v4 + 1) hF)
        · have hF := zif hF c15
          refine z_iconst (v := 1) C dX8_goesAhead_122 (by decide) ?_
          refine z_goto (tgt := 127) C dX8_goesAhead_123 (by decide) ?_
          refine z_icmp_eq (tgt := 141) C dX8_goesAhead_127 (by decide) (fun c0 => absurd c0 (by decide)) (fun _ => ?_)
          refine z_iload C dX8_goesAhead_130 0 rfl ?_
          refine z_if_ne (tgt := 139) C dX8_goesAhead_132 (by decide) (fun c0 => absurd c0 (by decide)) (fun _ => ?_)
          refine z_iconst (v := 1) C dX8_goesAhead_135 (by decide) ?_
          refine z_goto (tgt := 140) C dX8_goesAhead_136 (by decide) ?_
          have hu := Option.some.inj hF
          subst hu
          exact z_iret C dX8_goesAhead_140 rfl z_b1
      · have hF := zif hF c12
        refine z_iconst (v := 1) C dX8_goesAhead_97 (by decide) ?_
        refine z_goto (tgt := 102) C dX8_goesAhead_98 (by decide) ?_
        refine z_istore (lv' := [(5, .int 1), (0, .ref (a8 0)), (1, .int v1), (2, .int v2), (3, .int v3), (4, .int v4)]) C dX8_goesAhead_102 (by decide) rfl ?_
        refine z_iload C dX8_goesAhead_104 0 rfl ?_
        refine z_aload_n C dX8_goesAhead_106 rfl 1 rfl ?_
        refine z_get (ref := "SecretBrokerModel") (v := .ref (a8 2)) C hX8_goesAhead_X8 0 rfl rfl 4 (by decide) kX8_goesAhead_13 (fun _ h9 => h9) rfl dX8_goesAhead_107 ?_
        refine z_iload_n C dX8_goesAhead_110 rfl 3 rfl ?_
        obtain ⟨g16, hF⟩ := zix_some hF
        refine z_iald (v := ((S 4) v2.toNatClampNeg)) C g16 2 rfl rfl rfl dX8_goesAhead_111 ?_
        refine z_iload C dX8_goesAhead_112 5 rfl ?_
        obtain ⟨r17, er17, hF⟩ := zbd hF
        refine z_callS (n := 2) (As := [.int ((S 4) v2.toNatClampNeg), .int v4]) C (c_X8_digit l D cI cJ cZ ((S 4) v2.toNatClampNeg) v4 r17 er17) gX8_goesAhead_X8_digit rfl rfl rfl (by decide +kernel) ⟨Nat.le_of_ble_eq_true rfl, Nat.le_of_ble_eq_true rfl⟩ ⟨Nat.zero_le _, Nat.zero_le _⟩ rfl rfl (Nat.le_of_ble_eq_true rfl) dX8_goesAhead_114 ?_
        refine z_bipush (v := 9) C dX8_goesAhead_117 (by decide) ?_
        refine z_icmp_ne (tgt := 126) C dX8_goesAhead_119 (by decide) (fun c18 => ?_) (fun c18 => ?_)
        · have hF := zelse hF c18
          refine z_iconst (v := 0) C dX8_goesAhead_126 (by decide) ?_
          refine z_icmp_eq (tgt := 141) C dX8_goesAhead_127 (by decide) (fun c0 => absurd c0 (by decide)) (fun _ => ?_)
          refine z_iload C dX8_goesAhead_130 0 rfl ?_
          refine z_if_ne (tgt := 139) C dX8_goesAhead_132 (by decide) (fun _ => ?_) (fun c0 => absurd c0 (by decide))
          refine z_iconst (v := 0) C dX8_goesAhead_139 (by decide) ?_
          have hu := Option.some.inj hF
          subst hu
          exact z_iret C dX8_goesAhead_140 rfl z_b0
        · have hF := zif hF c18
          refine z_iconst (v := 1) C dX8_goesAhead_122 (by decide) ?_
          refine z_goto (tgt := 127) C dX8_goesAhead_123 (by decide) ?_
          refine z_icmp_eq (tgt := 141) C dX8_goesAhead_127 (by decide) (fun _ => ?_) (fun c0 => absurd c0 (by decide))
          refine z_iinc (v := (v4 + 1)) (lv' := [(4, .int (v4 + 1)), (5, .int 1), (0, .ref (a8 0)), (1, .int v1), (2, .int v2), (3, .int v3)]) C dX8_goesAhead_141 5 rfl rfl (by decide) rfl ?_
          refine z_goto (tgt := 75) C dX8_goesAhead_144 (by decide) ?_
          exact z_sub C [2, 3, 4, 5, 0] rfl (ih v1 v2 v3 (v4 + 1) hF)
set_option maxHeartbeats 4000000 in
set_option maxRecDepth 100000 in
theorem c_X8_goesAhead (l : Launch) (D : va_G) (cI cJ cZ : ClassId) (a8 : Nat → Nat) (S : SS) (V : SL) (x1 : Int32) (x2 : Int32) (u : Int32) (hF : f_X8_goesAhead S x1 x2 = some u) : zM l yX8_goesAhead wsX8_goesAhead ({ frames := 3, cells := 0, slots := 0, locals := 66 }) D (zTy cI cJ cZ) [.ref (a8 0), .int x1, .int x2] (zwX8 cI cJ cZ a8 S V) (some (.int u)) (zwX8 cI cJ cZ a8 S V) := by
  refine z_body (cc := cX8_goesAhead) (maxL := 6) (rty := (some .boolean)) (own := RX8) (lv := [(0, .ref (a8 0)), (1, .int x1), (2, .int x2)]) (by decide +kernel) rfl rfl (Nat.le_of_ble_eq_true rfl) rfl (fun p e s m args below meth c A C => ?_)
  refine z_aload_n C dX8_goesAhead_0 rfl 0 rfl ?_
  refine z_get (ref := "SecretBrokerModel") (v := .ref (a8 2)) C hX8_goesAhead_X8 0 rfl rfl 4 (by decide) kX8_goesAhead_13 (fun _ h9 => h9) rfl dX8_goesAhead_1 ?_
  refine z_iload_n C dX8_goesAhead_4 rfl 1 rfl ?_
  obtain ⟨g1, hF⟩ := zix_some hF
  refine z_iald (v := ((S 4) x1.toNatClampNeg)) C g1 2 rfl rfl rfl dX8_goesAhead_5 ?_
  obtain ⟨r2, er2, hF⟩ := zbd hF
  refine z_callS (n := 1) (As := [.int ((S 4) x1.toNatClampNeg)]) C (c_X8_digits l D cI cJ cZ ((S 4) x1.toNatClampNeg) r2 er2) gX8_goesAhead_X8_digits rfl rfl rfl (by decide +kernel) ⟨Nat.le_of_ble_eq_true rfl, Nat.le_of_ble_eq_true rfl⟩ ⟨Nat.zero_le _, Nat.zero_le _⟩ rfl rfl (Nat.le_of_ble_eq_true rfl) dX8_goesAhead_6 ?_
  refine z_istore_n (lv' := [(3, .int r2), (0, .ref (a8 0)), (1, .int x1), (2, .int x2)]) C dX8_goesAhead_9 rfl (by decide) rfl ?_
  refine z_iload_n C dX8_goesAhead_10 rfl 0 rfl ?_
  refine z_aload_n C dX8_goesAhead_11 rfl 1 rfl ?_
  refine z_get (ref := "SecretBrokerModel") (v := .ref (a8 2)) C hX8_goesAhead_X8 0 rfl rfl 4 (by decide) kX8_goesAhead_13 (fun _ h9 => h9) rfl dX8_goesAhead_12 ?_
  refine z_iload_n C dX8_goesAhead_15 rfl 3 rfl ?_
  obtain ⟨g3, hF⟩ := zix_some hF
  refine z_iald (v := ((S 4) x2.toNatClampNeg)) C g3 2 rfl rfl rfl dX8_goesAhead_16 ?_
  obtain ⟨r4, er4, hF⟩ := zbd hF
  refine z_callS (n := 1) (As := [.int ((S 4) x2.toNatClampNeg)]) C (c_X8_digits l D cI cJ cZ ((S 4) x2.toNatClampNeg) r4 er4) gX8_goesAhead_X8_digits rfl rfl rfl (by decide +kernel) ⟨Nat.le_of_ble_eq_true rfl, Nat.le_of_ble_eq_true rfl⟩ ⟨Nat.zero_le _, Nat.zero_le _⟩ rfl rfl (Nat.le_of_ble_eq_true rfl) dX8_goesAhead_17 ?_
  refine z_icmp_eq (tgt := 42) C dX8_goesAhead_20 (by decide) (fun c5 => ?_) (fun c5 => ?_)
  · have hF := zif hF c5
    refine z_aload_n C dX8_goesAhead_42 rfl 1 rfl ?_
    refine z_get (ref := "SecretBrokerModel") (v := .ref (a8 3)) C hX8_goesAhead_X8 0 rfl rfl 5 (by decide) kX8_goesAhead_16 (fun _ h9 => h9) rfl dX8_goesAhead_43 ?_
    refine z_iload_n C dX8_goesAhead_46 rfl 2 rfl ?_
    obtain ⟨g6, hF⟩ := zix_some hF
    refine z_zald (v := ((S 5) x1.toNatClampNeg)) C g6 3 rfl rfl rfl dX8_goesAhead_47 ?_
    refine z_aload_n C dX8_goesAhead_48 rfl 1 rfl ?_
    refine z_get (ref := "SecretBrokerModel") (v := .ref (a8 3)) C hX8_goesAhead_X8 0 rfl rfl 5 (by decide) kX8_goesAhead_16 (fun _ h9 => h9) rfl dX8_goesAhead_49 ?_
    refine z_iload_n C dX8_goesAhead_52 rfl 3 rfl ?_
    obtain ⟨g7, hF⟩ := zix_some hF
    refine z_zald (v := ((S 5) x2.toNatClampNeg)) C g7 3 rfl rfl rfl dX8_goesAhead_53 ?_
    refine z_icmp_eq (tgt := 72) C dX8_goesAhead_54 (by decide) (fun c8 => ?_) (fun c8 => ?_)
    · have hF := zif hF c8
      refine z_iconst (v := 0) C dX8_goesAhead_72 (by decide) ?_
      refine z_istore (lv' := [(4, .int 0), (3, .int r2), (0, .ref (a8 0)), (1, .int x1), (2, .int x2)]) C dX8_goesAhead_73 (by decide) rfl ?_
      exact z_sub C [2, 3, 4, 1, 0] rfl (c_X8_goesAhead_j75 l D cI cJ cZ a8 S V u C 600 x1 x2 r2 0 hF)
    · have hF := zelse hF c8
      refine z_aload_n C dX8_goesAhead_57 rfl 1 rfl ?_
      refine z_get (ref := "SecretBrokerModel") (v := .ref (a8 3)) C hX8_goesAhead_X8 0 rfl rfl 5 (by decide) kX8_goesAhead_16 (fun _ h9 => h9) rfl dX8_goesAhead_58 ?_
      refine z_iload_n C dX8_goesAhead_61 rfl 2 rfl ?_
      obtain ⟨g19, hF⟩ := zix_some hF
      refine z_zald (v := ((S 5) x1.toNatClampNeg)) C g19 3 rfl rfl rfl dX8_goesAhead_62 ?_
      refine z_if_ne (tgt := 70) C dX8_goesAhead_63 (by decide) (fun c20 => ?_) (fun c20 => ?_)
      · have hF := zelse hF c20
        refine z_iconst (v := 0) C dX8_goesAhead_70 (by decide) ?_
        have hu := Option.some.inj hF
        subst hu
        exact z_iret C dX8_goesAhead_71 rfl z_b0
      · have hF := zif hF c20
        refine z_iconst (v := 1) C dX8_goesAhead_66 (by decide) ?_
        refine z_goto (tgt := 71) C dX8_goesAhead_67 (by decide) ?_
        have hu := Option.some.inj hF
        subst hu
        exact z_iret C dX8_goesAhead_71 rfl z_b1
  · have hF := zelse hF c5
    refine z_iload_n C dX8_goesAhead_23 rfl 0 rfl ?_
    refine z_aload_n C dX8_goesAhead_24 rfl 1 rfl ?_
    refine z_get (ref := "SecretBrokerModel") (v := .ref (a8 2)) C hX8_goesAhead_X8 0 rfl rfl 4 (by decide) kX8_goesAhead_13 (fun _ h9 => h9) rfl dX8_goesAhead_25 ?_
    refine z_iload_n C dX8_goesAhead_28 rfl 3 rfl ?_
    obtain ⟨g21, hF⟩ := zix_some hF
    refine z_iald (v := ((S 4) x2.toNatClampNeg)) C g21 2 rfl rfl rfl dX8_goesAhead_29 ?_
    obtain ⟨r22, er22, hF⟩ := zbd hF
    refine z_callS (n := 1) (As := [.int ((S 4) x2.toNatClampNeg)]) C (c_X8_digits l D cI cJ cZ ((S 4) x2.toNatClampNeg) r22 er22) gX8_goesAhead_X8_digits rfl rfl rfl (by decide +kernel) ⟨Nat.le_of_ble_eq_true rfl, Nat.le_of_ble_eq_true rfl⟩ ⟨Nat.zero_le _, Nat.zero_le _⟩ rfl rfl (Nat.le_of_ble_eq_true rfl) dX8_goesAhead_30 ?_
    refine z_icmp_le (tgt := 40) C dX8_goesAhead_33 (by decide) (fun c23 => ?_) (fun c23 => ?_)
    · have hF := zif hF c23
      refine z_iconst (v := 0) C dX8_goesAhead_40 (by decide) ?_
      have hu := Option.some.inj hF
      subst hu
      exact z_iret C dX8_goesAhead_41 rfl z_b0
    · have hF := zelse hF c23
      refine z_iconst (v := 1) C dX8_goesAhead_36 (by decide) ?_
      refine z_goto (tgt := 41) C dX8_goesAhead_37 (by decide) ?_
      have hu := Option.some.inj hF
      subst hu
      exact z_iret C dX8_goesAhead_41 rfl z_b1
theorem kX8_decided_7 : Cond.fieldLink RX8 7 "SecretBrokerModel" "rules" "[I" ∈ wsX8_decided := by decide +kernel
theorem kX8_decided_20 : Cond.fieldLink RX8 20 "SecretBrokerModel" "allowed" "[I" ∈ wsX8_decided := by decide +kernel
theorem hX8_decided_X8 : ∀ w ∈ wsX80, w ∈ wsX8_decided := by decide +kernel
set_option maxHeartbeats 4000000 in
set_option maxRecDepth 100000 in
theorem c_X8_decided_j8 (l : Launch) (D : va_G) (cI cJ cZ : ClassId) (a8 : Nat → Nat) (S : SS) (V : SL) (u : Int32) {p : Program} {e : Env} {s : State} {m : MethodId} {args : Array Value} {below : List Frame} {meth : Method} {c : Code} {A : Nat → Prop} (C : zC p s m args meth c cX8_decided 5 (some .int) RX8 wsX8_decided D (zTy cI cJ cZ) A s.heap) : ∀ (n : Nat) (v1 : Int32) (v2 : Int32) (v3 : Int32) (v4 : Int32), f_X8_decided_8 S n v1 v2 v3 v4 = some u → zW p l e { frames := 4, cells := 0, slots := 0, locals := 92 } s m args below meth c 5 D A s.heap 0 0 (MQ below (zQ D (zTy cI cJ cZ) (some (.int u)) (zwX8 cI cJ cZ a8 S V) A) args s 0 0 A) (zwX8 cI cJ cZ a8 S V) [(0, .ref (a8 0)), (1, .int v1), (2, .int v2), (3, .int v3), (4, .int v4)] 8 [] := by
  intro n
  induction n with
  | zero => intro v1 v2 v3 v4 hF; exact absurd (show none = some u from hF) (fun q => nomatch q)
  | succ n ih =>
    intro v1 v2 v3 v4 hF
    refine z_iload C dX8_decided_8 4 rfl ?_
    refine z_bipush (v := 6) C dX8_decided_10 (by decide) ?_
    refine z_iload_n C dX8_decided_12 rfl 1 rfl ?_
    refine z_imul C dX8_decided_13 ?_
    refine z_aload_n C dX8_decided_14 rfl 0 rfl ?_
    refine z_get (ref := "SecretBrokerModel") (v := .ref (a8 1)) C hX8_decided_X8 0 rfl rfl 3 (by decide) kX8_decided_7 (fun _ h9 => h9) rfl dX8_decided_15 ?_
    refine z_iload_n C dX8_decided_18 rfl 1 rfl ?_
    obtain ⟨g1, hF⟩ := zix_some hF
    refine z_iald (v := ((S 3) v1.toNatClampNeg)) C g1 1 rfl rfl rfl dX8_decided_19 ?_
    refine z_iadd C dX8_decided_20 ?_
    refine z_icmp_ge (tgt := 58) C dX8_decided_21 (by decide) (fun c2 => ?_) (fun c2 => ?_)
    · have hF := zif hF c2
      refine z_iload_n C dX8_decided_58 rfl 3 rfl ?_
      refine z_iconst (v := (-1)) C dX8_decided_59 (by decide) ?_
      refine z_icmp_ne (tgt := 67) C dX8_decided_60 (by decide) (fun c3 => ?_) (fun c3 => ?_)
      · have hF := zelse hF c3
        refine z_aload_n C dX8_decided_67 rfl 0 rfl ?_
        refine z_get (ref := "SecretBrokerModel") (v := .ref (a8 4)) C hX8_decided_X8 0 rfl rfl 6 (by decide) kX8_decided_20 (fun _ h9 => h9) rfl dX8_decided_68 ?_
        refine z_iload_n C dX8_decided_71 rfl 3 rfl ?_
        obtain ⟨g4, hF⟩ := zix_some hF
        refine z_iald (v := ((S 6) v3.toNatClampNeg)) C g4 4 rfl rfl rfl dX8_decided_72 ?_
        have hu := Option.some.inj hF
        subst hu
        exact z_iret C dX8_decided_73 rfl rfl
      · have hF := zif hF c3
        refine z_iconst (v := 0) C dX8_decided_63 (by decide) ?_
        refine z_goto (tgt := 73) C dX8_decided_64 (by decide) ?_
        have hu := Option.some.inj hF
        subst hu
        exact z_iret C dX8_decided_73 rfl rfl
    · have hF := zelse hF c2
      refine z_aload_n C dX8_decided_24 rfl 0 rfl ?_
      refine z_iload C dX8_decided_25 4 rfl ?_
      refine z_iload_n C dX8_decided_27 rfl 2 rfl ?_
      obtain ⟨r5, er5, hF⟩ := zbd hF
      refine z_callV (n := 2) (As := [.int v4, .int v2]) (ws' := (zwX8 cI cJ cZ a8 S V)) C (c_X8_fits l D cI cJ cZ a8 S V v4 v2 r5 er5) gX8_decided_X8_fits rfl rfl rfl (by decide +kernel) ⟨Nat.le_of_ble_eq_true rfl, Nat.le_of_ble_eq_true rfl⟩ ⟨Nat.zero_le _, Nat.zero_le _⟩ 0 rfl rfl [] [] rfl rfl rfl rfl (Nat.le_of_ble_eq_true rfl) dX8_decided_28 ?_
      refine z_if_eq (tgt := 52) C dX8_decided_31 (by decide) (fun c6 => ?_) (fun c6 => ?_)
      · have hF := zif hF c6
        refine z_iinc (v := (v4 + 1)) (lv' := [(4, .int (v4 + 1)), (0, .ref (a8 0)), (1, .int v1), (2, .int v2), (3, .int v3)]) C dX8_decided_52 4 rfl rfl (by decide) rfl ?_
        refine z_goto (tgt := 8) C dX8_decided_55 (by decide) ?_
        exact z_sub C [1, 2, 3, 4, 0] rfl (ih v1 v2 v3 (v4 + 1) hF)
      · have hF := zelse hF c6
        refine z_iload_n C dX8_decided_34 rfl 3 rfl ?_
        refine z_iconst (v := (-1)) C dX8_decided_35 (by decide) ?_
        refine z_icmp_eq (tgt := 49) C dX8_decided_36 (by decide) (fun c7 => ?_) (fun c7 => ?_)
        · have hF := zif hF c7
          refine z_iload C dX8_decided_49 4 rfl ?_
          refine z_istore_n (lv' := [(3, .int v4), (0, .ref (a8 0)), (1, .int v1), (2, .int v2), (4, .int v4)]) C dX8_decided_51 rfl (by decide) rfl ?_
          refine z_iinc (v := (v4 + 1)) (lv' := [(4, .int (v4 + 1)), (3, .int v4), (0, .ref (a8 0)), (1, .int v1), (2, .int v2)]) C dX8_decided_52 4 rfl rfl (by decide) rfl ?_
          refine z_goto (tgt := 8) C dX8_decided_55 (by decide) ?_
          exact z_sub C [2, 3, 4, 1, 0] rfl (ih v1 v2 v4 (v4 + 1) hF)
        · have hF := zelse hF c7
          refine z_aload_n C dX8_decided_39 rfl 0 rfl ?_
          refine z_iload C dX8_decided_40 4 rfl ?_
          refine z_iload_n C dX8_decided_42 rfl 3 rfl ?_
          obtain ⟨r8, er8, hF⟩ := zbd hF
          refine z_callV (n := 2) (As := [.int v4, .int v3]) (ws' := (zwX8 cI cJ cZ a8 S V)) C (c_X8_goesAhead l D cI cJ cZ a8 S V v4 v3 r8 er8) gX8_decided_X8_goesAhead rfl rfl rfl (by decide +kernel) ⟨Nat.le_of_ble_eq_true rfl, Nat.le_of_ble_eq_true rfl⟩ ⟨Nat.zero_le _, Nat.zero_le _⟩ 0 rfl rfl [] [] rfl rfl rfl rfl (Nat.le_of_ble_eq_true rfl) dX8_decided_43 ?_
          refine z_if_eq (tgt := 52) C dX8_decided_46 (by decide) (fun c9 => ?_) (fun c9 => ?_)
          · have hF := zif hF c9
            refine z_iinc (v := (v4 + 1)) (lv' := [(4, .int (v4 + 1)), (0, .ref (a8 0)), (1, .int v1), (2, .int v2), (3, .int v3)]) C dX8_decided_52 4 rfl rfl (by decide) rfl ?_
            refine z_goto (tgt := 8) C dX8_decided_55 (by decide) ?_
            exact z_sub C [1, 2, 3, 4, 0] rfl (ih v1 v2 v3 (v4 + 1) hF)
          · have hF := zelse hF c9
            refine z_iload C dX8_decided_49 4 rfl ?_
            refine z_istore_n (lv' := [(3, .int v4), (0, .ref (a8 0)), (1, .int v1), (2, .int v2), (4, .int v4)]) C dX8_decided_51 rfl (by decide) rfl ?_
            refine z_iinc (v := (v4 + 1)) (lv' := [(4, .int (v4 + 1)), (3, .int v4), (0, .ref (a8 0)), (1, .int v1), (2, .int v2)]) C dX8_decided_52 4 rfl rfl (by decide) rfl ?_
            refine z_goto (tgt := 8) C dX8_decided_55 (by decide) ?_
            exact z_sub C [2, 3, 4, 1, 0] rfl (ih v1 v2 v4 (v4 + 1) hF)
set_option maxHeartbeats 4000000 in
set_option maxRecDepth 100000 in
theorem c_X8_decided (l : Launch) (D : va_G) (cI cJ cZ : ClassId) (a8 : Nat → Nat) (S : SS) (V : SL) (x1 : Int32) (x2 : Int32) (u : Int32) (hF : f_X8_decided S x1 x2 = some u) : zM l yX8_decided wsX8_decided ({ frames := 4, cells := 0, slots := 0, locals := 92 }) D (zTy cI cJ cZ) [.ref (a8 0), .int x1, .int x2] (zwX8 cI cJ cZ a8 S V) (some (.int u)) (zwX8 cI cJ cZ a8 S V) := by
  refine z_body (cc := cX8_decided) (maxL := 5) (rty := (some .int)) (own := RX8) (lv := [(0, .ref (a8 0)), (1, .int x1), (2, .int x2)]) (by decide +kernel) rfl rfl (Nat.le_of_ble_eq_true rfl) rfl (fun p e s m args below meth c A C => ?_)
  refine z_iconst (v := (-1)) C dX8_decided_0 (by decide) ?_
  refine z_istore_n (lv' := [(3, .int (-1)), (0, .ref (a8 0)), (1, .int x1), (2, .int x2)]) C dX8_decided_1 rfl (by decide) rfl ?_
  refine z_bipush (v := 6) C dX8_decided_2 (by decide) ?_
  refine z_iload_n C dX8_decided_4 rfl 2 rfl ?_
  refine z_imul C dX8_decided_5 ?_
  refine z_istore (lv' := [(4, .int (6 * x1)), (3, .int (-1)), (0, .ref (a8 0)), (1, .int x1), (2, .int x2)]) C dX8_decided_6 (by decide) rfl ?_
  exact z_sub C [2, 3, 4, 1, 0] rfl (c_X8_decided_j8 l D cI cJ cZ a8 S V u C 600 x1 x2 (-1) (6 * x1) hF)
theorem kX8_can_130 : Cond.fieldLink RX8 130 "SecretBrokerModel" "policies" "I" ∈ wsX8_can := by decide +kernel
theorem kX8_can_42 : Cond.fieldLink RX8 42 "SecretBrokerModel" "set" "[I" ∈ wsX8_can := by decide +kernel
theorem hX8_can_X8 : ∀ w ∈ wsX80, w ∈ wsX8_can := by decide +kernel
set_option maxHeartbeats 4000000 in
set_option maxRecDepth 100000 in
theorem c_X8_can_j14 (l : Launch) (D : va_G) (cI cJ cZ : ClassId) (a8 : Nat → Nat) (S : SS) (V : SL) (u : Int32) {p : Program} {e : Env} {s : State} {m : MethodId} {args : Array Value} {below : List Frame} {meth : Method} {c : Code} {A : Nat → Prop} (C : zC p s m args meth c cX8_can 5 (some .int) RX8 wsX8_can D (zTy cI cJ cZ) A s.heap) : ∀ (n : Nat) (v1 : Int32) (v2 : Int32) (v3 : Int32) (v4 : Int32), f_X8_can_14 S n v1 v2 v3 v4 = some u → zW p l e { frames := 5, cells := 0, slots := 0, locals := 116 } s m args below meth c 5 D A s.heap 0 0 (MQ below (zQ D (zTy cI cJ cZ) (some (.int u)) (zwX8 cI cJ cZ a8 S V) A) args s 0 0 A) (zwX8 cI cJ cZ a8 S V) [(0, .ref (a8 0)), (1, .int v1), (2, .int v2), (3, .int v3), (4, .int v4)] 14 [] := by
  intro n
  induction n with
  | zero => intro v1 v2 v3 v4 hF; exact absurd (show none = some u from hF) (fun q => nomatch q)
  | succ n ih =>
    intro v1 v2 v3 v4 hF
    refine z_iload C dX8_can_14 4 rfl ?_
    refine z_aload_n C dX8_can_16 rfl 0 rfl ?_
    refine z_get (ref := "SecretBrokerModel") (v := .int (S 2 0)) C hX8_can_X8 0 rfl rfl 2 (by decide) kX8_can_130 (fun _ h9 => h9) rfl dX8_can_17 ?_
    refine z_icmp_ge (tgt := 58) C dX8_can_20 (by decide) (fun c2 => ?_) (fun c2 => ?_)
    · have hF := zif hF c2
      refine z_iload_n C dX8_can_58 rfl 3 rfl ?_
      refine z_bipush (v := 8) C dX8_can_59 (by decide) ?_
      refine z_iand C dX8_can_61 ?_
      refine z_if_ne (tgt := 69) C dX8_can_62 (by decide) (fun c3 => ?_) (fun c3 => ?_)
      · have hF := zelse hF c3
        refine z_iconst (v := 0) C dX8_can_69 (by decide) ?_
        have hu := Option.some.inj hF
        subst hu
        exact z_iret C dX8_can_70 rfl rfl
      · have hF := zif hF c3
        refine z_iload_n C dX8_can_65 rfl 3 rfl ?_
        refine z_goto (tgt := 70) C dX8_can_66 (by decide) ?_
        have hu := Option.some.inj hF
        subst hu
        exact z_iret C dX8_can_70 rfl rfl
    · have hF := zelse hF c2
      refine z_iload_n C dX8_can_23 rfl 3 rfl ?_
      refine z_aload_n C dX8_can_24 rfl 0 rfl ?_
      refine z_get (ref := "SecretBrokerModel") (v := .ref (a8 10)) C hX8_can_X8 0 rfl rfl 14 (by decide) kX8_can_42 (fun _ h9 => h9) rfl dX8_can_25 ?_
      refine z_iload_n C dX8_can_28 rfl 1 rfl ?_
      obtain ⟨g4, hF⟩ := zix_some hF
      refine z_iald (v := ((S 14) v1.toNatClampNeg)) C g4 10 rfl rfl rfl dX8_can_29 ?_
      refine z_iload C dX8_can_30 4 rfl ?_
      refine z_ishr C dX8_can_32 ?_
      refine z_iconst (v := 1) C dX8_can_33 (by decide) ?_
      refine z_iand C dX8_can_34 ?_
      refine z_iconst (v := 1) C dX8_can_35 (by decide) ?_
      refine z_icmp_ne (tgt := 49) C dX8_can_36 (by decide) (fun c5 => ?_) (fun c5 => ?_)
      · have hF := zelse hF c5
        refine z_iconst (v := 0) C dX8_can_49 (by decide) ?_
        refine z_ior C dX8_can_50 ?_
        refine z_istore_n (lv' := [(3, .int (v3 ||| 0)), (0, .ref (a8 0)), (1, .int v1), (2, .int v2), (4, .int v4)]) C dX8_can_51 rfl (by decide) rfl ?_
        refine z_iinc (v := (v4 + 1)) (lv' := [(4, .int (v4 + 1)), (3, .int (v3 ||| 0)), (0, .ref (a8 0)), (1, .int v1), (2, .int v2)]) C dX8_can_52 4 rfl rfl (by decide) rfl ?_
        refine z_goto (tgt := 14) C dX8_can_55 (by decide) ?_
        exact z_sub C [2, 3, 4, 1, 0] rfl (ih v1 v2 (v3 ||| 0) (v4 + 1) hF)
      · have hF := zif hF c5
        refine z_aload_n C dX8_can_39 rfl 0 rfl ?_
        refine z_iload C dX8_can_40 4 rfl ?_
        refine z_iload_n C dX8_can_42 rfl 2 rfl ?_
        obtain ⟨r6, er6, hF⟩ := zbd hF
        refine z_callV (n := 2) (As := [.int v4, .int v2]) (ws' := (zwX8 cI cJ cZ a8 S V)) C (c_X8_decided l D cI cJ cZ a8 S V v4 v2 r6 er6) gX8_can_X8_decided rfl rfl rfl (by decide +kernel) ⟨Nat.le_of_ble_eq_true rfl, Nat.le_of_ble_eq_true rfl⟩ ⟨Nat.zero_le _, Nat.zero_le _⟩ 0 rfl rfl [] [] rfl rfl rfl rfl (Nat.le_of_ble_eq_true rfl) dX8_can_43 ?_
        refine z_goto (tgt := 50) C dX8_can_46 (by decide) ?_
        refine z_ior C dX8_can_50 ?_
        refine z_istore_n (lv' := [(3, .int (v3 ||| r6)), (0, .ref (a8 0)), (1, .int v1), (2, .int v2), (4, .int v4)]) C dX8_can_51 rfl (by decide) rfl ?_
        refine z_iinc (v := (v4 + 1)) (lv' := [(4, .int (v4 + 1)), (3, .int (v3 ||| r6)), (0, .ref (a8 0)), (1, .int v1), (2, .int v2)]) C dX8_can_52 4 rfl rfl (by decide) rfl ?_
        refine z_goto (tgt := 14) C dX8_can_55 (by decide) ?_
        exact z_sub C [2, 3, 4, 1, 0] rfl (ih v1 v2 (v3 ||| r6) (v4 + 1) hF)
set_option maxHeartbeats 4000000 in
set_option maxRecDepth 100000 in
theorem c_X8_can (l : Launch) (D : va_G) (cI cJ cZ : ClassId) (a8 : Nat → Nat) (S : SS) (V : SL) (x1 : Int32) (x2 : Int32) (u : Int32) (hF : f_X8_can S x1 x2 = some u) : zM l yX8_can wsX8_can ({ frames := 5, cells := 0, slots := 0, locals := 116 }) D (zTy cI cJ cZ) [.ref (a8 0), .int x1, .int x2] (zwX8 cI cJ cZ a8 S V) (some (.int u)) (zwX8 cI cJ cZ a8 S V) := by
  refine z_body (cc := cX8_can) (maxL := 5) (rty := (some .int)) (own := RX8) (lv := [(0, .ref (a8 0)), (1, .int x1), (2, .int x2)]) (by decide +kernel) rfl rfl (Nat.le_of_ble_eq_true rfl) rfl (fun p e s m args below meth c A C => ?_)
  refine z_iload_n C dX8_can_0 rfl 1 rfl ?_
  refine z_if_ne (tgt := 9) C dX8_can_1 (by decide) (fun c1 => ?_) (fun c1 => ?_)
  · have hF := zelse hF c1
    refine z_iconst (v := 0) C dX8_can_9 (by decide) ?_
    refine z_istore_n (lv' := [(3, .int 0), (0, .ref (a8 0)), (1, .int x1), (2, .int x2)]) C dX8_can_10 rfl (by decide) rfl ?_
    refine z_iconst (v := 0) C dX8_can_11 (by decide) ?_
    refine z_istore (lv' := [(4, .int 0), (3, .int 0), (0, .ref (a8 0)), (1, .int x1), (2, .int x2)]) C dX8_can_12 (by decide) rfl ?_
    exact z_sub C [2, 3, 4, 1, 0] rfl (c_X8_can_j14 l D cI cJ cZ a8 S V u C 600 x1 x2 0 0 hF)
  · have hF := zif hF c1
    refine z_bipush (v := 7) C dX8_can_4 (by decide) ?_
    refine z_goto (tgt := 10) C dX8_can_6 (by decide) ?_
    refine z_istore_n (lv' := [(3, .int 7), (0, .ref (a8 0)), (1, .int x1), (2, .int x2)]) C dX8_can_10 rfl (by decide) rfl ?_
    refine z_iconst (v := 0) C dX8_can_11 (by decide) ?_
    refine z_istore (lv' := [(4, .int 0), (3, .int 7), (0, .ref (a8 0)), (1, .int x1), (2, .int x2)]) C dX8_can_12 (by decide) rfl ?_
    exact z_sub C [2, 3, 4, 1, 0] rfl (c_X8_can_j14 l D cI cJ cZ a8 S V u C 600 x1 x2 7 0 hF)
theorem kX8_mountFor_136 : Cond.fieldLink RX8 136 "SecretBrokerModel" "mounts" "I" ∈ wsX8_mountFor := by decide +kernel
theorem kX8_mountFor_23 : Cond.fieldLink RX8 23 "SecretBrokerModel" "mountPath" "[I" ∈ wsX8_mountFor := by decide +kernel
theorem hX8_mountFor_X8 : ∀ w ∈ wsX80, w ∈ wsX8_mountFor := by decide +kernel
set_option maxHeartbeats 4000000 in
set_option maxRecDepth 100000 in
theorem c_X8_mountFor_j4 (l : Launch) (D : va_G) (cI cJ cZ : ClassId) (a8 : Nat → Nat) (S : SS) (V : SL) (u : Int32) {p : Program} {e : Env} {s : State} {m : MethodId} {args : Array Value} {below : List Frame} {meth : Method} {c : Code} {A : Nat → Prop} (C : zC p s m args meth c cX8_mountFor 4 (some .int) RX8 wsX8_mountFor D (zTy cI cJ cZ) A s.heap) : ∀ (n : Nat) (v1 : Int32) (v2 : Int32) (v3 : Int32), f_X8_mountFor_4 S n v1 v2 v3 = some u → zW p l e { frames := 3, cells := 0, slots := 0, locals := 66 } s m args below meth c 4 D A s.heap 0 0 (MQ below (zQ D (zTy cI cJ cZ) (some (.int u)) (zwX8 cI cJ cZ a8 S V) A) args s 0 0 A) (zwX8 cI cJ cZ a8 S V) [(0, .ref (a8 0)), (1, .int v1), (2, .int v2), (3, .int v3)] 4 [] := by
  intro n
  induction n with
  | zero => intro v1 v2 v3 hF; exact absurd (show none = some u from hF) (fun q => nomatch q)
  | succ n ih =>
    intro v1 v2 v3 hF
    refine z_iload_n C dX8_mountFor_4 rfl 3 rfl ?_
    refine z_aload_n C dX8_mountFor_5 rfl 0 rfl ?_
    refine z_get (ref := "SecretBrokerModel") (v := .int (S 7 0)) C hX8_mountFor_X8 0 rfl rfl 7 (by decide) kX8_mountFor_136 (fun _ h9 => h9) rfl dX8_mountFor_6 ?_
    refine z_icmp_ge (tgt := 59) C dX8_mountFor_9 (by decide) (fun c1 => ?_) (fun c1 => ?_)
    · have hF := zif hF c1
      refine z_iload_n C dX8_mountFor_59 rfl 2 rfl ?_
      have hu := Option.some.inj hF
      subst hu
      exact z_iret C dX8_mountFor_60 rfl rfl
    · have hF := zelse hF c1
      refine z_iload_n C dX8_mountFor_12 rfl 1 rfl ?_
      refine z_aload_n C dX8_mountFor_13 rfl 0 rfl ?_
      refine z_get (ref := "SecretBrokerModel") (v := .ref (a8 5)) C hX8_mountFor_X8 0 rfl rfl 8 (by decide) kX8_mountFor_23 (fun _ h9 => h9) rfl dX8_mountFor_14 ?_
      refine z_iload_n C dX8_mountFor_17 rfl 3 rfl ?_
      obtain ⟨g2, hF⟩ := zix_some hF
      refine z_iald (v := ((S 8) v3.toNatClampNeg)) C g2 5 rfl rfl rfl dX8_mountFor_18 ?_
      obtain ⟨r3, er3, hF⟩ := zbd hF
      refine z_callS (n := 2) (As := [.int v1, .int ((S 8) v3.toNatClampNeg)]) C (c_X8_isBelow l D cI cJ cZ v1 ((S 8) v3.toNatClampNeg) r3 er3) gX8_mountFor_X8_isBelow rfl rfl rfl (by decide +kernel) ⟨Nat.le_of_ble_eq_true rfl, Nat.le_of_ble_eq_true rfl⟩ ⟨Nat.zero_le _, Nat.zero_le _⟩ rfl rfl (Nat.le_of_ble_eq_true rfl) dX8_mountFor_19 ?_
      refine z_if_eq (tgt := 53) C dX8_mountFor_22 (by decide) (fun c4 => ?_) (fun c4 => ?_)
      · have hF := zif hF c4
        refine z_iinc (v := (v3 + 1)) (lv' := [(3, .int (v3 + 1)), (0, .ref (a8 0)), (1, .int v1), (2, .int v2)]) C dX8_mountFor_53 3 rfl rfl (by decide) rfl ?_
        refine z_goto (tgt := 4) C dX8_mountFor_56 (by decide) ?_
        exact z_sub C [1, 2, 3, 0] rfl (ih v1 v2 (v3 + 1) hF)
      · have hF := zelse hF c4
        refine z_iload_n C dX8_mountFor_25 rfl 2 rfl ?_
        refine z_iconst (v := (-1)) C dX8_mountFor_26 (by decide) ?_
        refine z_icmp_eq (tgt := 51) C dX8_mountFor_27 (by decide) (fun c5 => ?_) (fun c5 => ?_)
        · have hF := zif hF c5
          refine z_iload_n C dX8_mountFor_51 rfl 3 rfl ?_
          refine z_istore_n (lv' := [(2, .int v3), (0, .ref (a8 0)), (1, .int v1), (3, .int v3)]) C dX8_mountFor_52 rfl (by decide) rfl ?_
          refine z_iinc (v := (v3 + 1)) (lv' := [(3, .int (v3 + 1)), (2, .int v3), (0, .ref (a8 0)), (1, .int v1)]) C dX8_mountFor_53 3 rfl rfl (by decide) rfl ?_
          refine z_goto (tgt := 4) C dX8_mountFor_56 (by decide) ?_
          exact z_sub C [2, 3, 1, 0] rfl (ih v1 v3 (v3 + 1) hF)
        · have hF := zelse hF c5
          refine z_aload_n C dX8_mountFor_30 rfl 0 rfl ?_
          refine z_get (ref := "SecretBrokerModel") (v := .ref (a8 5)) C hX8_mountFor_X8 0 rfl rfl 8 (by decide) kX8_mountFor_23 (fun _ h9 => h9) rfl dX8_mountFor_31 ?_
          refine z_iload_n C dX8_mountFor_34 rfl 3 rfl ?_
          obtain ⟨g6, hF⟩ := zix_some hF
          refine z_iald (v := ((S 8) v3.toNatClampNeg)) C g6 5 rfl rfl rfl dX8_mountFor_35 ?_
          obtain ⟨r7, er7, hF⟩ := zbd hF
          refine z_callS (n := 1) (As := [.int ((S 8) v3.toNatClampNeg)]) C (c_X8_digits l D cI cJ cZ ((S 8) v3.toNatClampNeg) r7 er7) gX8_mountFor_X8_digits rfl rfl rfl (by decide +kernel) ⟨Nat.le_of_ble_eq_true rfl, Nat.le_of_ble_eq_true rfl⟩ ⟨Nat.zero_le _, Nat.zero_le _⟩ rfl rfl (Nat.le_of_ble_eq_true rfl) dX8_mountFor_36 ?_
          refine z_aload_n C dX8_mountFor_39 rfl 0 rfl ?_
          refine z_get (ref := "SecretBrokerModel") (v := .ref (a8 5)) C hX8_mountFor_X8 0 rfl rfl 8 (by decide) kX8_mountFor_23 (fun _ h9 => h9) rfl dX8_mountFor_40 ?_
          refine z_iload_n C dX8_mountFor_43 rfl 2 rfl ?_
          obtain ⟨g8, hF⟩ := zix_some hF
          refine z_iald (v := ((S 8) v2.toNatClampNeg)) C g8 5 rfl rfl rfl dX8_mountFor_44 ?_
          obtain ⟨r9, er9, hF⟩ := zbd hF
          refine z_callS (n := 1) (As := [.int ((S 8) v2.toNatClampNeg)]) C (c_X8_digits l D cI cJ cZ ((S 8) v2.toNatClampNeg) r9 er9) gX8_mountFor_X8_digits rfl rfl rfl (by decide +kernel) ⟨Nat.le_of_ble_eq_true rfl, Nat.le_of_ble_eq_true rfl⟩ ⟨Nat.zero_le _, Nat.zero_le _⟩ rfl rfl (Nat.le_of_ble_eq_true rfl) dX8_mountFor_45 ?_
          refine z_icmp_le (tgt := 53) C dX8_mountFor_48 (by decide) (fun c10 => ?_) (fun c10 => ?_)
          · have hF := zif hF c10
            refine z_iinc (v := (v3 + 1)) (lv' := [(3, .int (v3 + 1)), (0, .ref (a8 0)), (1, .int v1), (2, .int v2)]) C dX8_mountFor_53 3 rfl rfl (by decide) rfl ?_
            refine z_goto (tgt := 4) C dX8_mountFor_56 (by decide) ?_
            exact z_sub C [1, 2, 3, 0] rfl (ih v1 v2 (v3 + 1) hF)
          · have hF := zelse hF c10
            refine z_iload_n C dX8_mountFor_51 rfl 3 rfl ?_
            refine z_istore_n (lv' := [(2, .int v3), (0, .ref (a8 0)), (1, .int v1), (3, .int v3)]) C dX8_mountFor_52 rfl (by decide) rfl ?_
            refine z_iinc (v := (v3 + 1)) (lv' := [(3, .int (v3 + 1)), (2, .int v3), (0, .ref (a8 0)), (1, .int v1)]) C dX8_mountFor_53 3 rfl rfl (by decide) rfl ?_
            refine z_goto (tgt := 4) C dX8_mountFor_56 (by decide) ?_
            exact z_sub C [2, 3, 1, 0] rfl (ih v1 v3 (v3 + 1) hF)
set_option maxHeartbeats 4000000 in
set_option maxRecDepth 100000 in
theorem c_X8_mountFor (l : Launch) (D : va_G) (cI cJ cZ : ClassId) (a8 : Nat → Nat) (S : SS) (V : SL) (x1 : Int32) (u : Int32) (hF : f_X8_mountFor S x1 = some u) : zM l yX8_mountFor wsX8_mountFor ({ frames := 3, cells := 0, slots := 0, locals := 66 }) D (zTy cI cJ cZ) [.ref (a8 0), .int x1] (zwX8 cI cJ cZ a8 S V) (some (.int u)) (zwX8 cI cJ cZ a8 S V) := by
  refine z_body (cc := cX8_mountFor) (maxL := 4) (rty := (some .int)) (own := RX8) (lv := [(0, .ref (a8 0)), (1, .int x1)]) (by decide +kernel) rfl rfl (Nat.le_of_ble_eq_true rfl) rfl (fun p e s m args below meth c A C => ?_)
  refine z_iconst (v := (-1)) C dX8_mountFor_0 (by decide) ?_
  refine z_istore_n (lv' := [(2, .int (-1)), (0, .ref (a8 0)), (1, .int x1)]) C dX8_mountFor_1 rfl (by decide) rfl ?_
  refine z_iconst (v := 0) C dX8_mountFor_2 (by decide) ?_
  refine z_istore_n (lv' := [(3, .int 0), (2, .int (-1)), (0, .ref (a8 0)), (1, .int x1)]) C dX8_mountFor_3 rfl (by decide) rfl ?_
  exact z_sub C [2, 3, 1, 0] rfl (c_X8_mountFor_j4 l D cI cJ cZ a8 S V u C 600 x1 (-1) 0 hF)
theorem kX8_policy_130 : Cond.fieldLink RX8 130 "SecretBrokerModel" "policies" "I" ∈ wsX8_policy := by decide +kernel
theorem kX8_policy_88 : Cond.fieldLink RX8 88 "SecretBrokerModel" "thrown" "I" ∈ wsX8_policy := by decide +kernel
theorem hX8_policy_X8 : ∀ w ∈ wsX80, w ∈ wsX8_policy := by decide +kernel
set_option maxHeartbeats 4000000 in
set_option maxRecDepth 100000 in
theorem c_X8_policy_j15 (l : Launch) (D : va_G) (cI cJ cZ : ClassId) (a8 : Nat → Nat) (S : SS) (V : SL) (u : Int32 × SS) {p : Program} {e : Env} {s : State} {m : MethodId} {args : Array Value} {below : List Frame} {meth : Method} {c : Code} {A : Nat → Prop} (C : zC p s m args meth c cX8_policy 1 (some .int) RX8 wsX8_policy D (zTy cI cJ cZ) A s.heap) : ∀ (Sc : SS) (s1 : Int32), f_X8_policy_15 Sc s1 = some u → zW p l e { frames := 0, cells := 0, slots := 0, locals := 0 } s m args below meth c 1 D A s.heap 0 0 (MQ below (zQ D (zTy cI cJ cZ) (some (.int u.1)) (zwX8 cI cJ cZ a8 u.2 V) A) args s 0 0 A) (zwX8 cI cJ cZ a8 Sc V) [(0, .ref (a8 0))] 15 [.int s1, .ref (a8 0)] := by
  intro Sc s1 hF
  refine z_put (ws' := (zwX8 cI cJ cZ a8 (zs Sc 0 s1) V)) (ref := "SecretBrokerModel") (ty := .int) C hX8_policy_X8 tyX8 tyX8_ok nmX8 0 rfl rfl 0 (by decide) kX8_policy_88 (fun _ h9 => h9) rfl (by decide +kernel) rfl rfl (Nat.le_of_ble_eq_true rfl) dX8_policy_15 (zs_val Sc 0 s1) (zf_X8_0 cI cJ cZ a8 Sc V s1) ?_
  refine z_aload_n C dX8_policy_18 rfl 0 rfl ?_
  refine z_dup C dX8_policy_19 rfl ?_
  refine z_get (ref := "SecretBrokerModel") (v := .int (Sc 2 0)) C hX8_policy_X8 0 rfl rfl 2 (by decide) kX8_policy_130 (fun _ h9 => h9) rfl dX8_policy_20 ?_
  refine z_aload_n C dX8_policy_23 rfl 0 rfl ?_
  refine z_get (ref := "SecretBrokerModel") (v := .int ((zs Sc 0 s1) 0 0)) C hX8_policy_X8 0 rfl rfl 0 (by decide) kX8_policy_88 (fun _ h9 => h9) rfl dX8_policy_24 ?_
  refine z_if_le (tgt := 34) C dX8_policy_27 (by decide) (fun c2 => ?_) (fun c2 => ?_)
  · have hF := zif hF c2
    refine z_iconst (v := 1) C dX8_policy_34 (by decide) ?_
    refine z_iadd C dX8_policy_35 ?_
    refine z_put (ws' := (zwX8 cI cJ cZ a8 (zs (zs Sc 0 s1) 2 ((Sc 2 0) + 1)) V)) (ref := "SecretBrokerModel") (ty := .int) C hX8_policy_X8 tyX8 tyX8_ok nmX8 0 rfl rfl 2 (by decide) kX8_policy_130 (fun _ h9 => h9) rfl (by decide +kernel) rfl rfl (Nat.le_of_ble_eq_true rfl) dX8_policy_36 (zs_val (zs Sc 0 s1) 2 ((Sc 2 0) + 1)) (zf_X8_2 cI cJ cZ a8 (zs Sc 0 s1) V ((Sc 2 0) + 1)) ?_
    refine z_aload_n C dX8_policy_39 rfl 0 rfl ?_
    refine z_get (ref := "SecretBrokerModel") (v := .int ((zs (zs Sc 0 s1) 2 ((Sc 2 0) + 1)) 2 0)) C hX8_policy_X8 0 rfl rfl 2 (by decide) kX8_policy_130 (fun _ h9 => h9) rfl dX8_policy_40 ?_
    refine z_iconst (v := 1) C dX8_policy_43 (by decide) ?_
    refine z_isub C dX8_policy_44 ?_
    have hu := Option.some.inj hF
    subst hu
    exact z_iret C dX8_policy_45 rfl rfl
  · have hF := zelse hF c2
    refine z_iconst (v := 0) C dX8_policy_30 (by decide) ?_
    refine z_goto (tgt := 35) C dX8_policy_31 (by decide) ?_
    refine z_iadd C dX8_policy_35 ?_
    refine z_put (ws' := (zwX8 cI cJ cZ a8 (zs (zs Sc 0 s1) 2 ((Sc 2 0) + 0)) V)) (ref := "SecretBrokerModel") (ty := .int) C hX8_policy_X8 tyX8 tyX8_ok nmX8 0 rfl rfl 2 (by decide) kX8_policy_130 (fun _ h9 => h9) rfl (by decide +kernel) rfl rfl (Nat.le_of_ble_eq_true rfl) dX8_policy_36 (zs_val (zs Sc 0 s1) 2 ((Sc 2 0) + 0)) (zf_X8_2 cI cJ cZ a8 (zs Sc 0 s1) V ((Sc 2 0) + 0)) ?_
    refine z_aload_n C dX8_policy_39 rfl 0 rfl ?_
    refine z_get (ref := "SecretBrokerModel") (v := .int ((zs (zs Sc 0 s1) 2 ((Sc 2 0) + 0)) 2 0)) C hX8_policy_X8 0 rfl rfl 2 (by decide) kX8_policy_130 (fun _ h9 => h9) rfl dX8_policy_40 ?_
    refine z_iconst (v := 1) C dX8_policy_43 (by decide) ?_
    refine z_isub C dX8_policy_44 ?_
    have hu := Option.some.inj hF
    subst hu
    exact z_iret C dX8_policy_45 rfl rfl
set_option maxHeartbeats 4000000 in
set_option maxRecDepth 100000 in
theorem c_X8_policy (l : Launch) (D : va_G) (cI cJ cZ : ClassId) (a8 : Nat → Nat) (S : SS) (V : SL) (u : Int32 × SS) (hF : f_X8_policy S = some u) : zM l yX8_policy wsX8_policy ({ frames := 0, cells := 0, slots := 0, locals := 0 }) D (zTy cI cJ cZ) [.ref (a8 0)] (zwX8 cI cJ cZ a8 S V) (some (.int u.1)) (zwX8 cI cJ cZ a8 u.2 V) := by
  refine z_body (cc := cX8_policy) (maxL := 1) (rty := (some .int)) (own := RX8) (lv := [(0, .ref (a8 0))]) (by decide +kernel) rfl rfl (Nat.le_of_ble_eq_true rfl) rfl (fun p e s m args below meth c A C => ?_)
  refine z_aload_n C dX8_policy_0 rfl 0 rfl ?_
  refine z_aload_n C dX8_policy_1 rfl 0 rfl ?_
  refine z_get (ref := "SecretBrokerModel") (v := .int (S 2 0)) C hX8_policy_X8 0 rfl rfl 2 (by decide) kX8_policy_130 (fun _ h9 => h9) rfl dX8_policy_2 ?_
  refine z_bipush (v := 8) C dX8_policy_5 (by decide) ?_
  refine z_icmp_ne (tgt := 14) C dX8_policy_7 (by decide) (fun c1 => ?_) (fun c1 => ?_)
  · have hF := zelse hF c1
    refine z_iconst (v := 0) C dX8_policy_14 (by decide) ?_
    exact c_X8_policy_j15 l D cI cJ cZ a8 S V u C S 0 hF
  · have hF := zif hF c1
    refine z_iconst (v := 1) C dX8_policy_10 (by decide) ?_
    refine z_goto (tgt := 15) C dX8_policy_11 (by decide) ?_
    exact c_X8_policy_j15 l D cI cJ cZ a8 S V u C S 1 hF
theorem kX8_isPolicy_130 : Cond.fieldLink RX8 130 "SecretBrokerModel" "policies" "I" ∈ wsX8_isPolicy := by decide +kernel
theorem hX8_isPolicy_X8 : ∀ w ∈ wsX80, w ∈ wsX8_isPolicy := by decide +kernel
set_option maxHeartbeats 4000000 in
set_option maxRecDepth 100000 in
theorem c_X8_isPolicy (l : Launch) (D : va_G) (cI cJ cZ : ClassId) (a8 : Nat → Nat) (S : SS) (V : SL) (x1 : Int32) (u : Int32) (hF : f_X8_isPolicy S x1 = some u) : zM l yX8_isPolicy wsX8_isPolicy ({ frames := 0, cells := 0, slots := 0, locals := 0 }) D (zTy cI cJ cZ) [.ref (a8 0), .int x1] (zwX8 cI cJ cZ a8 S V) (some (.int u)) (zwX8 cI cJ cZ a8 S V) := by
  refine z_body (cc := cX8_isPolicy) (maxL := 2) (rty := (some .boolean)) (own := RX8) (lv := [(0, .ref (a8 0)), (1, .int x1)]) (by decide +kernel) rfl rfl (Nat.le_of_ble_eq_true rfl) rfl (fun p e s m args below meth c A C => ?_)
  refine z_iload_n C dX8_isPolicy_0 rfl 1 rfl ?_
  refine z_if_lt (tgt := 16) C dX8_isPolicy_1 (by decide) (fun c1 => ?_) (fun c1 => ?_)
  · have hF := zif hF c1
    refine z_iconst (v := 0) C dX8_isPolicy_16 (by decide) ?_
    have hu := Option.some.inj hF
    subst hu
    exact z_iret C dX8_isPolicy_17 rfl z_b0
  · have hF := zelse hF c1
    refine z_iload_n C dX8_isPolicy_4 rfl 1 rfl ?_
    refine z_aload_n C dX8_isPolicy_5 rfl 0 rfl ?_
    refine z_get (ref := "SecretBrokerModel") (v := .int (S 2 0)) C hX8_isPolicy_X8 0 rfl rfl 2 (by decide) kX8_isPolicy_130 (fun _ h9 => h9) rfl dX8_isPolicy_6 ?_
    refine z_icmp_ge (tgt := 16) C dX8_isPolicy_9 (by decide) (fun c2 => ?_) (fun c2 => ?_)
    · have hF := zif hF c2
      refine z_iconst (v := 0) C dX8_isPolicy_16 (by decide) ?_
      have hu := Option.some.inj hF
      subst hu
      exact z_iret C dX8_isPolicy_17 rfl z_b0
    · have hF := zelse hF c2
      refine z_iconst (v := 1) C dX8_isPolicy_12 (by decide) ?_
      refine z_goto (tgt := 17) C dX8_isPolicy_13 (by decide) ?_
      have hu := Option.some.inj hF
      subst hu
      exact z_iret C dX8_isPolicy_17 rfl z_b1
theorem kX8_allow_88 : Cond.fieldLink RX8 88 "SecretBrokerModel" "thrown" "I" ∈ wsX8_allow := by decide +kernel
theorem kX8_allow_7 : Cond.fieldLink RX8 7 "SecretBrokerModel" "rules" "[I" ∈ wsX8_allow := by decide +kernel
theorem kX8_allow_13 : Cond.fieldLink RX8 13 "SecretBrokerModel" "pattern" "[I" ∈ wsX8_allow := by decide +kernel
theorem kX8_allow_16 : Cond.fieldLink RX8 16 "SecretBrokerModel" "open" "[Z" ∈ wsX8_allow := by decide +kernel
theorem kX8_allow_20 : Cond.fieldLink RX8 20 "SecretBrokerModel" "allowed" "[I" ∈ wsX8_allow := by decide +kernel
theorem hX8_allow_X8 : ∀ w ∈ wsX80, w ∈ wsX8_allow := by decide +kernel
set_option maxHeartbeats 4000000 in
set_option maxRecDepth 100000 in
theorem c_X8_allow_j147 (l : Launch) (D : va_G) (cI cJ cZ : ClassId) (a8 : Nat → Nat) (S : SS) (V : SL) (u : Int32 × SS) {p : Program} {e : Env} {s : State} {m : MethodId} {args : Array Value} {below : List Frame} {meth : Method} {c : Code} {A : Nat → Prop} (C : zC p s m args meth c cX8_allow 7 (some .int) RX8 wsX8_allow D (zTy cI cJ cZ) A s.heap) : ∀ (Sc : SS) (v1 : Int32) (v2 : Int32) (v3 : Int32) (v4 : Int32) (v5 : Int32) (s1 : Int32) (s2 : Int32) (s3 : Int32), f_X8_allow_147 Sc v1 v2 v3 v4 v5 s1 s2 s3 = some u → zW p l e { frames := 2, cells := 0, slots := 0, locals := 45 } s m args below meth c 7 D A s.heap 0 0 (MQ below (zQ D (zTy cI cJ cZ) (some (.int u.1)) (zwX8 cI cJ cZ a8 u.2 V) A) args s 0 0 A) (zwX8 cI cJ cZ a8 Sc V) [(0, .ref (a8 0)), (1, .int v1), (2, .int v2), (3, .int v3), (4, .int v4), (5, .int v5)] 147 [.int s3, .int s2, .int s1, .ref (a8 1)] := by
  intro Sc v1 v2 v3 v4 v5 s1 s2 s3 hF
  refine z_iadd C dX8_allow_147 ?_
  obtain ⟨g11, hF⟩ := zix_some hF
  refine z_iast (ws' := (zwX8 cI cJ cZ a8 (za Sc 3 s1 (s2 + s3)) V)) C g11 1 rfl rfl dX8_allow_148 (za_row Sc 3 s1 (s2 + s3)) (zr_X8_3 cI cJ cZ a8 Sc V s1 (s2 + s3)) ?_
  refine z_aload_n C dX8_allow_149 rfl 0 rfl ?_
  refine z_get (ref := "SecretBrokerModel") (v := .ref (a8 2)) C hX8_allow_X8 0 rfl rfl 4 (by decide) kX8_allow_13 (fun _ h9 => h9) rfl dX8_allow_150 ?_
  refine z_iload C dX8_allow_153 5 rfl ?_
  refine z_iload_n C dX8_allow_155 rfl 2 rfl ?_
  obtain ⟨g12, hF⟩ := zix_some hF
  refine z_iast (ws' := (zwX8 cI cJ cZ a8 (za (za Sc 3 s1 (s2 + s3)) 4 v5 v2) V)) C g12 2 rfl rfl dX8_allow_156 (za_row (za Sc 3 s1 (s2 + s3)) 4 v5 v2) (zr_X8_4 cI cJ cZ a8 (za Sc 3 s1 (s2 + s3)) V v5 v2) ?_
  refine z_aload_n C dX8_allow_157 rfl 0 rfl ?_
  refine z_get (ref := "SecretBrokerModel") (v := .ref (a8 3)) C hX8_allow_X8 0 rfl rfl 5 (by decide) kX8_allow_16 (fun _ h9 => h9) rfl dX8_allow_158 ?_
  refine z_iload C dX8_allow_161 5 rfl ?_
  refine z_iload_n C dX8_allow_163 rfl 3 rfl ?_
  obtain ⟨g13, hF⟩ := zix_some hF
  refine z_zast (ws' := (zwX8 cI cJ cZ a8 (za (za (za Sc 3 s1 (s2 + s3)) 4 v5 v2) 5 v5 (vp_nar .boolean v3)) V)) C g13 3 rfl rfl dX8_allow_164 (za_row (za (za Sc 3 s1 (s2 + s3)) 4 v5 v2) 5 v5 (vp_nar .boolean v3)) (zr_X8_5 cI cJ cZ a8 (za (za Sc 3 s1 (s2 + s3)) 4 v5 v2) V v5 (vp_nar .boolean v3)) ?_
  refine z_aload_n C dX8_allow_165 rfl 0 rfl ?_
  refine z_get (ref := "SecretBrokerModel") (v := .ref (a8 4)) C hX8_allow_X8 0 rfl rfl 6 (by decide) kX8_allow_20 (fun _ h9 => h9) rfl dX8_allow_166 ?_
  refine z_iload C dX8_allow_169 5 rfl ?_
  refine z_iload C dX8_allow_171 4 rfl ?_
  obtain ⟨g14, hF⟩ := zix_some hF
  refine z_iast (ws' := (zwX8 cI cJ cZ a8 (za (za (za (za Sc 3 s1 (s2 + s3)) 4 v5 v2) 5 v5 (vp_nar .boolean v3)) 6 v5 v4) V)) C g14 4 rfl rfl dX8_allow_173 (za_row (za (za (za Sc 3 s1 (s2 + s3)) 4 v5 v2) 5 v5 (vp_nar .boolean v3)) 6 v5 v4) (zr_X8_6 cI cJ cZ a8 (za (za (za Sc 3 s1 (s2 + s3)) 4 v5 v2) 5 v5 (vp_nar .boolean v3)) V v5 v4) ?_
  refine z_aload_n C dX8_allow_174 rfl 0 rfl ?_
  refine z_get (ref := "SecretBrokerModel") (v := .ref (a8 1)) C hX8_allow_X8 0 rfl rfl 3 (by decide) kX8_allow_7 (fun _ h9 => h9) rfl dX8_allow_175 ?_
  refine z_iload_n C dX8_allow_178 rfl 1 rfl ?_
  obtain ⟨g15, hF⟩ := zix_some hF
  refine z_iald (v := (((za (za (za (za Sc 3 s1 (s2 + s3)) 4 v5 v2) 5 v5 (vp_nar .boolean v3)) 6 v5 v4) 3) v1.toNatClampNeg)) C g15 1 rfl rfl rfl dX8_allow_179 ?_
  have hu := Option.some.inj hF
  subst hu
  exact z_iret C dX8_allow_180 rfl rfl
set_option maxHeartbeats 4000000 in
set_option maxRecDepth 100000 in
theorem c_X8_allow_j128 (l : Launch) (D : va_G) (cI cJ cZ : ClassId) (a8 : Nat → Nat) (S : SS) (V : SL) (u : Int32 × SS) {p : Program} {e : Env} {s : State} {m : MethodId} {args : Array Value} {below : List Frame} {meth : Method} {c : Code} {A : Nat → Prop} (C : zC p s m args meth c cX8_allow 7 (some .int) RX8 wsX8_allow D (zTy cI cJ cZ) A s.heap) : ∀ (Sc : SS) (v1 : Int32) (v2 : Int32) (v3 : Int32) (v4 : Int32) (v5 : Int32) (v6 : Int32), f_X8_allow_128 Sc v1 v2 v3 v4 v5 v6 = some u → zW p l e { frames := 2, cells := 0, slots := 0, locals := 45 } s m args below meth c 7 D A s.heap 0 0 (MQ below (zQ D (zTy cI cJ cZ) (some (.int u.1)) (zwX8 cI cJ cZ a8 u.2 V) A) args s 0 0 A) (zwX8 cI cJ cZ a8 Sc V) [(0, .ref (a8 0)), (1, .int v1), (2, .int v2), (3, .int v3), (4, .int v4), (5, .int v5), (6, .int v6)] 128 [] := by
  intro Sc v1 v2 v3 v4 v5 v6 hF
  refine z_aload_n C dX8_allow_128 rfl 0 rfl ?_
  refine z_get (ref := "SecretBrokerModel") (v := .ref (a8 1)) C hX8_allow_X8 0 rfl rfl 3 (by decide) kX8_allow_7 (fun _ h9 => h9) rfl dX8_allow_129 ?_
  refine z_iload_n C dX8_allow_132 rfl 1 rfl ?_
  refine z_dup2 C dX8_allow_133 rfl rfl ?_
  obtain ⟨g9, hF⟩ := zix_some hF
  refine z_iald (v := ((Sc 3) v1.toNatClampNeg)) C g9 1 rfl rfl rfl dX8_allow_134 ?_
  refine z_iload C dX8_allow_135 5 rfl ?_
  refine z_iload C dX8_allow_137 6 rfl ?_
  refine z_icmp_ne (tgt := 146) C dX8_allow_139 (by decide) (fun c10 => ?_) (fun c10 => ?_)
  · have hF := zelse hF c10
    refine z_iconst (v := 0) C dX8_allow_146 (by decide) ?_
    exact z_sub C [0, 1, 2, 3, 4, 5] rfl (c_X8_allow_j147 l D cI cJ cZ a8 S V u C Sc v1 v2 v3 v4 v5 v1 ((Sc 3) v1.toNatClampNeg) 0 hF)
  · have hF := zif hF c10
    refine z_iconst (v := 1) C dX8_allow_142 (by decide) ?_
    refine z_goto (tgt := 147) C dX8_allow_143 (by decide) ?_
    exact z_sub C [0, 1, 2, 3, 4, 5] rfl (c_X8_allow_j147 l D cI cJ cZ a8 S V u C Sc v1 v2 v3 v4 v5 v1 ((Sc 3) v1.toNatClampNeg) 1 hF)
set_option maxHeartbeats 4000000 in
set_option maxRecDepth 100000 in
theorem c_X8_allow_j103 (l : Launch) (D : va_G) (cI cJ cZ : ClassId) (a8 : Nat → Nat) (S : SS) (V : SL) (u : Int32 × SS) {p : Program} {e : Env} {s : State} {m : MethodId} {args : Array Value} {below : List Frame} {meth : Method} {c : Code} {A : Nat → Prop} (C : zC p s m args meth c cX8_allow 7 (some .int) RX8 wsX8_allow D (zTy cI cJ cZ) A s.heap) : ∀ (Sc : SS) (v1 : Int32) (v2 : Int32) (v3 : Int32) (v4 : Int32) (v5 : Int32) (v6 : Int32), f_X8_allow_103 Sc v1 v2 v3 v4 v5 v6 = some u → zW p l e { frames := 2, cells := 0, slots := 0, locals := 45 } s m args below meth c 7 D A s.heap 0 0 (MQ below (zQ D (zTy cI cJ cZ) (some (.int u.1)) (zwX8 cI cJ cZ a8 u.2 V) A) args s 0 0 A) (zwX8 cI cJ cZ a8 Sc V) [(0, .ref (a8 0)), (1, .int v1), (2, .int v2), (3, .int v3), (4, .int v4), (5, .int v5), (6, .int v6)] 103 [] := by
  intro Sc v1 v2 v3 v4 v5 v6 hF
  refine z_iload C dX8_allow_103 5 rfl ?_
  refine z_iload C dX8_allow_105 6 rfl ?_
  refine z_icmp_ne (tgt := 128) C dX8_allow_107 (by decide) (fun c8 => ?_) (fun c8 => ?_)
  · have hF := zelse hF c8
    exact c_X8_allow_j128 l D cI cJ cZ a8 S V u C Sc v1 v2 v3 v4 v5 v6 hF
  · have hF := zif hF c8
    refine z_aload_n C dX8_allow_110 rfl 0 rfl ?_
    refine z_get (ref := "SecretBrokerModel") (v := .ref (a8 1)) C hX8_allow_X8 0 rfl rfl 3 (by decide) kX8_allow_7 (fun _ h9 => h9) rfl dX8_allow_111 ?_
    refine z_iload_n C dX8_allow_114 rfl 1 rfl ?_
    obtain ⟨g16, hF⟩ := zix_some hF
    refine z_iald (v := ((Sc 3) v1.toNatClampNeg)) C g16 1 rfl rfl rfl dX8_allow_115 ?_
    refine z_bipush (v := 6) C dX8_allow_116 (by decide) ?_
    refine z_icmp_ne (tgt := 128) C dX8_allow_118 (by decide) (fun c17 => ?_) (fun c17 => ?_)
    · have hF := zelse hF c17
      exact c_X8_allow_j128 l D cI cJ cZ a8 S V u C Sc v1 v2 v3 v4 v5 v6 hF
    · have hF := zif hF c17
      refine z_aload_n C dX8_allow_121 rfl 0 rfl ?_
      refine z_iconst (v := 3) C dX8_allow_122 (by decide) ?_
      refine z_put (ws' := (zwX8 cI cJ cZ a8 (zs Sc 0 3) V)) (ref := "SecretBrokerModel") (ty := .int) C hX8_allow_X8 tyX8 tyX8_ok nmX8 0 rfl rfl 0 (by decide) kX8_allow_88 (fun _ h9 => h9) rfl (by decide +kernel) rfl rfl (Nat.le_of_ble_eq_true rfl) dX8_allow_123 (zs_val Sc 0 3) (zf_X8_0 cI cJ cZ a8 Sc V 3) ?_
      refine z_iconst (v := 0) C dX8_allow_126 (by decide) ?_
      have hu := Option.some.inj hF
      subst hu
      exact z_iret C dX8_allow_127 rfl rfl
set_option maxHeartbeats 4000000 in
set_option maxRecDepth 100000 in
theorem c_X8_allow_j68 (l : Launch) (D : va_G) (cI cJ cZ : ClassId) (a8 : Nat → Nat) (S : SS) (V : SL) (u : Int32 × SS) {p : Program} {e : Env} {s : State} {m : MethodId} {args : Array Value} {below : List Frame} {meth : Method} {c : Code} {A : Nat → Prop} (C : zC p s m args meth c cX8_allow 7 (some .int) RX8 wsX8_allow D (zTy cI cJ cZ) A s.heap) : ∀ (n : Nat) (Sc : SS) (v1 : Int32) (v2 : Int32) (v3 : Int32) (v4 : Int32) (v5 : Int32) (v6 : Int32), f_X8_allow_68 n Sc v1 v2 v3 v4 v5 v6 = some u → zW p l e { frames := 2, cells := 0, slots := 0, locals := 45 } s m args below meth c 7 D A s.heap 0 0 (MQ below (zQ D (zTy cI cJ cZ) (some (.int u.1)) (zwX8 cI cJ cZ a8 u.2 V) A) args s 0 0 A) (zwX8 cI cJ cZ a8 Sc V) [(0, .ref (a8 0)), (1, .int v1), (2, .int v2), (3, .int v3), (4, .int v4), (5, .int v5), (6, .int v6)] 68 [] := by
  intro n
  induction n with
  | zero => intro Sc v1 v2 v3 v4 v5 v6 hF; exact absurd (show none = some u from hF) (fun q => nomatch q)
  | succ n ih =>
    intro Sc v1 v2 v3 v4 v5 v6 hF
    refine z_iload C dX8_allow_68 5 rfl ?_
    refine z_iload C dX8_allow_70 6 rfl ?_
    refine z_icmp_ge (tgt := 103) C dX8_allow_72 (by decide) (fun c7 => ?_) (fun c7 => ?_)
    · have hF := zif hF c7
      exact c_X8_allow_j103 l D cI cJ cZ a8 S V u C Sc v1 v2 v3 v4 v5 v6 hF
    · have hF := zelse hF c7
      refine z_aload_n C dX8_allow_75 rfl 0 rfl ?_
      refine z_get (ref := "SecretBrokerModel") (v := .ref (a8 2)) C hX8_allow_X8 0 rfl rfl 4 (by decide) kX8_allow_13 (fun _ h9 => h9) rfl dX8_allow_76 ?_
      refine z_iload C dX8_allow_79 5 rfl ?_
      obtain ⟨g18, hF⟩ := zix_some hF
      refine z_iald (v := ((Sc 4) v5.toNatClampNeg)) C g18 2 rfl rfl rfl dX8_allow_81 ?_
      refine z_iload_n C dX8_allow_82 rfl 2 rfl ?_
      refine z_icmp_ne (tgt := 97) C dX8_allow_83 (by decide) (fun c19 => ?_) (fun c19 => ?_)
      · have hF := zelse hF c19
        refine z_iinc (v := (v5 + 1)) (lv' := [(5, .int (v5 + 1)), (0, .ref (a8 0)), (1, .int v1), (2, .int v2), (3, .int v3), (4, .int v4), (6, .int v6)]) C dX8_allow_97 5 rfl rfl (by decide) rfl ?_
        refine z_goto (tgt := 68) C dX8_allow_100 (by decide) ?_
        exact z_sub C [1, 2, 3, 4, 5, 0, 6] rfl (ih Sc v1 v2 v3 v4 (v5 + 1) v6 hF)
      · have hF := zif hF c19
        refine z_aload_n C dX8_allow_86 rfl 0 rfl ?_
        refine z_get (ref := "SecretBrokerModel") (v := .ref (a8 3)) C hX8_allow_X8 0 rfl rfl 5 (by decide) kX8_allow_16 (fun _ h9 => h9) rfl dX8_allow_87 ?_
        refine z_iload C dX8_allow_90 5 rfl ?_
        obtain ⟨g20, hF⟩ := zix_some hF
        refine z_zald (v := ((Sc 5) v5.toNatClampNeg)) C g20 3 rfl rfl rfl dX8_allow_92 ?_
        refine z_iload_n C dX8_allow_93 rfl 3 rfl ?_
        refine z_icmp_eq (tgt := 103) C dX8_allow_94 (by decide) (fun c21 => ?_) (fun c21 => ?_)
        · have hF := zif hF c21
          exact c_X8_allow_j103 l D cI cJ cZ a8 S V u C Sc v1 v2 v3 v4 v5 v6 hF
        · have hF := zelse hF c21
          refine z_iinc (v := (v5 + 1)) (lv' := [(5, .int (v5 + 1)), (0, .ref (a8 0)), (1, .int v1), (2, .int v2), (3, .int v3), (4, .int v4), (6, .int v6)]) C dX8_allow_97 5 rfl rfl (by decide) rfl ?_
          refine z_goto (tgt := 68) C dX8_allow_100 (by decide) ?_
          exact z_sub C [1, 2, 3, 4, 5, 0, 6] rfl (ih Sc v1 v2 v3 v4 (v5 + 1) v6 hF)
set_option maxHeartbeats 4000000 in
set_option maxRecDepth 100000 in
theorem c_X8_allow_j39 (l : Launch) (D : va_G) (cI cJ cZ : ClassId) (a8 : Nat → Nat) (S : SS) (V : SL) (u : Int32 × SS) {p : Program} {e : Env} {s : State} {m : MethodId} {args : Array Value} {below : List Frame} {meth : Method} {c : Code} {A : Nat → Prop} (C : zC p s m args meth c cX8_allow 7 (some .int) RX8 wsX8_allow D (zTy cI cJ cZ) A s.heap) : ∀ (Sc : SS) (v1 : Int32) (v2 : Int32) (v3 : Int32) (v4 : Int32) (s1 : Int32), f_X8_allow_39 Sc v1 v2 v3 v4 s1 = some u → zW p l e { frames := 2, cells := 0, slots := 0, locals := 45 } s m args below meth c 7 D A s.heap 0 0 (MQ below (zQ D (zTy cI cJ cZ) (some (.int u.1)) (zwX8 cI cJ cZ a8 u.2 V) A) args s 0 0 A) (zwX8 cI cJ cZ a8 Sc V) [(0, .ref (a8 0)), (1, .int v1), (2, .int v2), (3, .int v3), (4, .int v4)] 39 [.int s1, .ref (a8 0)] := by
  intro Sc v1 v2 v3 v4 s1 hF
  refine z_put (ws' := (zwX8 cI cJ cZ a8 (zs Sc 0 s1) V)) (ref := "SecretBrokerModel") (ty := .int) C hX8_allow_X8 tyX8 tyX8_ok nmX8 0 rfl rfl 0 (by decide) kX8_allow_88 (fun _ h9 => h9) rfl (by decide +kernel) rfl rfl (Nat.le_of_ble_eq_true rfl) dX8_allow_39 (zs_val Sc 0 s1) (zf_X8_0 cI cJ cZ a8 Sc V s1) ?_
  refine z_aload_n C dX8_allow_42 rfl 0 rfl ?_
  refine z_get (ref := "SecretBrokerModel") (v := .int ((zs Sc 0 s1) 0 0)) C hX8_allow_X8 0 rfl rfl 0 (by decide) kX8_allow_88 (fun _ h9 => h9) rfl dX8_allow_43 ?_
  refine z_if_le (tgt := 51) C dX8_allow_46 (by decide) (fun c5 => ?_) (fun c5 => ?_)
  · have hF := zif hF c5
    refine z_bipush (v := 6) C dX8_allow_51 (by decide) ?_
    refine z_iload_n C dX8_allow_53 rfl 1 rfl ?_
    refine z_imul C dX8_allow_54 ?_
    refine z_istore (lv' := [(5, .int (6 * v1)), (0, .ref (a8 0)), (1, .int v1), (2, .int v2), (3, .int v3), (4, .int v4)]) C dX8_allow_55 (by decide) rfl ?_
    refine z_iload C dX8_allow_57 0 rfl ?_
    refine z_aload_n C dX8_allow_59 rfl 1 rfl ?_
    refine z_get (ref := "SecretBrokerModel") (v := .ref (a8 1)) C hX8_allow_X8 0 rfl rfl 3 (by decide) kX8_allow_7 (fun _ h9 => h9) rfl dX8_allow_60 ?_
    refine z_iload_n C dX8_allow_63 rfl 2 rfl ?_
    obtain ⟨g6, hF⟩ := zix_some hF
    refine z_iald (v := ((Sc 3) v1.toNatClampNeg)) C g6 1 rfl rfl rfl dX8_allow_64 ?_
    refine z_iadd C dX8_allow_65 ?_
    refine z_istore (lv' := [(6, .int ((6 * v1) + ((Sc 3) v1.toNatClampNeg))), (5, .int (6 * v1)), (0, .ref (a8 0)), (1, .int v1), (2, .int v2), (3, .int v3), (4, .int v4)]) C dX8_allow_66 (by decide) rfl ?_
    exact z_sub C [2, 3, 4, 5, 6, 1, 0] rfl (c_X8_allow_j68 l D cI cJ cZ a8 S V u C 600 (zs Sc 0 s1) v1 v2 v3 v4 (6 * v1) ((6 * v1) + ((Sc 3) v1.toNatClampNeg)) hF)
  · have hF := zelse hF c5
    refine z_iconst (v := 0) C dX8_allow_49 (by decide) ?_
    have hu := Option.some.inj hF
    subst hu
    exact z_iret C dX8_allow_50 rfl rfl
set_option maxHeartbeats 4000000 in
set_option maxRecDepth 100000 in
theorem c_X8_allow_j34 (l : Launch) (D : va_G) (cI cJ cZ : ClassId) (a8 : Nat → Nat) (S : SS) (V : SL) (u : Int32 × SS) {p : Program} {e : Env} {s : State} {m : MethodId} {args : Array Value} {below : List Frame} {meth : Method} {c : Code} {A : Nat → Prop} (C : zC p s m args meth c cX8_allow 7 (some .int) RX8 wsX8_allow D (zTy cI cJ cZ) A s.heap) : ∀ (Sc : SS) (v1 : Int32) (v2 : Int32) (v3 : Int32) (v4 : Int32), f_X8_allow_34 Sc v1 v2 v3 v4 = some u → zW p l e { frames := 2, cells := 0, slots := 0, locals := 45 } s m args below meth c 7 D A s.heap 0 0 (MQ below (zQ D (zTy cI cJ cZ) (some (.int u.1)) (zwX8 cI cJ cZ a8 u.2 V) A) args s 0 0 A) (zwX8 cI cJ cZ a8 Sc V) [(0, .ref (a8 0)), (1, .int v1), (2, .int v2), (3, .int v3), (4, .int v4)] 34 [.ref (a8 0)] := by
  intro Sc v1 v2 v3 v4 hF
  refine z_iconst (v := 2) C dX8_allow_34 (by decide) ?_
  refine z_goto (tgt := 39) C dX8_allow_35 (by decide) ?_
  exact c_X8_allow_j39 l D cI cJ cZ a8 S V u C Sc v1 v2 v3 v4 2 hF
set_option maxHeartbeats 4000000 in
set_option maxRecDepth 100000 in
theorem c_X8_allow (l : Launch) (D : va_G) (cI cJ cZ : ClassId) (a8 : Nat → Nat) (S : SS) (V : SL) (x1 : Int32) (x2 : Int32) (x3 : Int32) (x4 : Int32) (u : Int32 × SS) (hF : f_X8_allow S x1 x2 x3 x4 = some u) : zM l yX8_allow wsX8_allow ({ frames := 2, cells := 0, slots := 0, locals := 45 }) D (zTy cI cJ cZ) [.ref (a8 0), .int x1, .int x2, .int x3, .int x4] (zwX8 cI cJ cZ a8 S V) (some (.int u.1)) (zwX8 cI cJ cZ a8 u.2 V) := by
  refine z_body (cc := cX8_allow) (maxL := 7) (rty := (some .int)) (own := RX8) (lv := [(0, .ref (a8 0)), (1, .int x1), (2, .int x2), (3, .int x3), (4, .int x4)]) (by decide +kernel) rfl rfl (Nat.le_of_ble_eq_true rfl) rfl (fun p e s m args below meth c A C => ?_)
  refine z_aload_n C dX8_allow_0 rfl 0 rfl ?_
  refine z_aload_n C dX8_allow_1 rfl 0 rfl ?_
  refine z_iload_n C dX8_allow_2 rfl 1 rfl ?_
  obtain ⟨r1, er1, hF⟩ := zbd hF
  refine z_callV (n := 1) (As := [.int x1]) (ws' := (zwX8 cI cJ cZ a8 S V)) C (c_X8_isPolicy l D cI cJ cZ a8 S V x1 r1 er1) gX8_allow_X8_isPolicy rfl rfl rfl (by decide +kernel) ⟨Nat.le_of_ble_eq_true rfl, Nat.le_of_ble_eq_true rfl⟩ ⟨Nat.zero_le _, Nat.zero_le _⟩ 0 rfl rfl [] [] rfl rfl rfl rfl (Nat.le_of_ble_eq_true rfl) dX8_allow_3 ?_
  refine z_if_ne (tgt := 13) C dX8_allow_6 (by decide) (fun c2 => ?_) (fun c2 => ?_)
  · have hF := zelse hF c2
    refine z_iload_n C dX8_allow_13 rfl 2 rfl ?_
    refine z_bipush (v := 9) C dX8_allow_14 (by decide) ?_
    obtain ⟨r3, er3, hF⟩ := zbd hF
    refine z_callS (n := 2) (As := [.int x2, .int 9]) C (c_X8_isWritten l D cI cJ cZ x2 9 r3 er3) gX8_allow_X8_isWritten rfl rfl rfl (by decide +kernel) ⟨Nat.le_of_ble_eq_true rfl, Nat.le_of_ble_eq_true rfl⟩ ⟨Nat.zero_le _, Nat.zero_le _⟩ rfl rfl (Nat.le_of_ble_eq_true rfl) dX8_allow_16 ?_
    refine z_if_eq (tgt := 34) C dX8_allow_19 (by decide) (fun c4 => ?_) (fun c4 => ?_)
    · have hF := zif hF c4
      exact c_X8_allow_j34 l D cI cJ cZ a8 S V u C S x1 x2 x3 x4 hF
    · have hF := zelse hF c4
      refine z_iload C dX8_allow_22 4 rfl ?_
      refine z_if_lt (tgt := 34) C dX8_allow_24 (by decide) (fun c22 => ?_) (fun c22 => ?_)
      · have hF := zif hF c22
        exact c_X8_allow_j34 l D cI cJ cZ a8 S V u C S x1 x2 x3 x4 hF
      · have hF := zelse hF c22
        refine z_iload C dX8_allow_27 4 rfl ?_
        refine z_bipush (v := 15) C dX8_allow_29 (by decide) ?_
        refine z_icmp_le (tgt := 38) C dX8_allow_31 (by decide) (fun c23 => ?_) (fun c23 => ?_)
        · have hF := zif hF c23
          refine z_iconst (v := 0) C dX8_allow_38 (by decide) ?_
          exact c_X8_allow_j39 l D cI cJ cZ a8 S V u C S x1 x2 x3 x4 0 hF
        · have hF := zelse hF c23
          exact c_X8_allow_j34 l D cI cJ cZ a8 S V u C S x1 x2 x3 x4 hF
  · have hF := zif hF c2
    refine z_iconst (v := 1) C dX8_allow_9 (by decide) ?_
    refine z_goto (tgt := 39) C dX8_allow_10 (by decide) ?_
    exact c_X8_allow_j39 l D cI cJ cZ a8 S V u C S x1 x2 x3 x4 1 hF
theorem kX8_clear_88 : Cond.fieldLink RX8 88 "SecretBrokerModel" "thrown" "I" ∈ wsX8_clear := by decide +kernel
theorem kX8_clear_7 : Cond.fieldLink RX8 7 "SecretBrokerModel" "rules" "[I" ∈ wsX8_clear := by decide +kernel
theorem hX8_clear_X8 : ∀ w ∈ wsX80, w ∈ wsX8_clear := by decide +kernel
set_option maxHeartbeats 4000000 in
set_option maxRecDepth 100000 in
theorem c_X8_clear (l : Launch) (D : va_G) (cI cJ cZ : ClassId) (a8 : Nat → Nat) (S : SS) (V : SL) (x1 : Int32) (u : Int32 × SS) (hF : f_X8_clear S x1 = some u) : zM l yX8_clear wsX8_clear ({ frames := 1, cells := 0, slots := 0, locals := 21 }) D (zTy cI cJ cZ) [.ref (a8 0), .int x1] (zwX8 cI cJ cZ a8 S V) (some (.int u.1)) (zwX8 cI cJ cZ a8 u.2 V) := by
  refine z_body (cc := cX8_clear) (maxL := 3) (rty := (some .int)) (own := RX8) (lv := [(0, .ref (a8 0)), (1, .int x1)]) (by decide +kernel) rfl rfl (Nat.le_of_ble_eq_true rfl) rfl (fun p e s m args below meth c A C => ?_)
  refine z_aload_n C dX8_clear_0 rfl 0 rfl ?_
  refine z_aload_n C dX8_clear_1 rfl 0 rfl ?_
  refine z_iload_n C dX8_clear_2 rfl 1 rfl ?_
  obtain ⟨r1, er1, hF⟩ := zbd hF
  refine z_callV (n := 1) (As := [.int x1]) (ws' := (zwX8 cI cJ cZ a8 S V)) C (c_X8_isPolicy l D cI cJ cZ a8 S V x1 r1 er1) gX8_clear_X8_isPolicy rfl rfl rfl (by decide +kernel) ⟨Nat.le_of_ble_eq_true rfl, Nat.le_of_ble_eq_true rfl⟩ ⟨Nat.zero_le _, Nat.zero_le _⟩ 0 rfl rfl [] [] rfl rfl rfl rfl (Nat.le_of_ble_eq_true rfl) dX8_clear_3 ?_
  refine z_if_eq (tgt := 13) C dX8_clear_6 (by decide) (fun c2 => ?_) (fun c2 => ?_)
  · have hF := zif hF c2
    refine z_iconst (v := 1) C dX8_clear_13 (by decide) ?_
    refine z_put (ws' := (zwX8 cI cJ cZ a8 (zs S 0 1) V)) (ref := "SecretBrokerModel") (ty := .int) C hX8_clear_X8 tyX8 tyX8_ok nmX8 0 rfl rfl 0 (by decide) kX8_clear_88 (fun _ h9 => h9) rfl (by decide +kernel) rfl rfl (Nat.le_of_ble_eq_true rfl) dX8_clear_14 (zs_val S 0 1) (zf_X8_0 cI cJ cZ a8 S V 1) ?_
    refine z_aload_n C dX8_clear_17 rfl 0 rfl ?_
    refine z_get (ref := "SecretBrokerModel") (v := .int ((zs S 0 1) 0 0)) C hX8_clear_X8 0 rfl rfl 0 (by decide) kX8_clear_88 (fun _ h9 => h9) rfl dX8_clear_18 ?_
    refine z_if_le (tgt := 26) C dX8_clear_21 (by decide) (fun c3 => ?_) (fun c3 => ?_)
    · have hF := zif hF c3
      refine z_aload_n C dX8_clear_26 rfl 0 rfl ?_
      refine z_get (ref := "SecretBrokerModel") (v := .ref (a8 1)) C hX8_clear_X8 0 rfl rfl 3 (by decide) kX8_clear_7 (fun _ h9 => h9) rfl dX8_clear_27 ?_
      refine z_iload_n C dX8_clear_30 rfl 1 rfl ?_
      obtain ⟨g4, hF⟩ := zix_some hF
      refine z_iald (v := ((S 3) x1.toNatClampNeg)) C g4 1 rfl rfl rfl dX8_clear_31 ?_
      refine z_istore_n (lv' := [(2, .int ((S 3) x1.toNatClampNeg)), (0, .ref (a8 0)), (1, .int x1)]) C dX8_clear_32 rfl (by decide) rfl ?_
      refine z_aload_n C dX8_clear_33 rfl 1 rfl ?_
      refine z_get (ref := "SecretBrokerModel") (v := .ref (a8 1)) C hX8_clear_X8 0 rfl rfl 3 (by decide) kX8_clear_7 (fun _ h9 => h9) rfl dX8_clear_34 ?_
      refine z_iload_n C dX8_clear_37 rfl 2 rfl ?_
      refine z_iconst (v := 0) C dX8_clear_38 (by decide) ?_
      obtain ⟨g5, hF⟩ := zix_some hF
      refine z_iast (ws' := (zwX8 cI cJ cZ a8 (za (zs S 0 1) 3 x1 0) V)) C g5 1 rfl rfl dX8_clear_39 (za_row (zs S 0 1) 3 x1 0) (zr_X8_3 cI cJ cZ a8 (zs S 0 1) V x1 0) ?_
      refine z_iload_n C dX8_clear_40 rfl 0 rfl ?_
      have hu := Option.some.inj hF
      subst hu
      exact z_iret C dX8_clear_41 rfl rfl
    · have hF := zelse hF c3
      refine z_iconst (v := 0) C dX8_clear_24 (by decide) ?_
      have hu := Option.some.inj hF
      subst hu
      exact z_iret C dX8_clear_25 rfl rfl
  · have hF := zelse hF c2
    refine z_iconst (v := 0) C dX8_clear_9 (by decide) ?_
    refine z_goto (tgt := 14) C dX8_clear_10 (by decide) ?_
    refine z_put (ws' := (zwX8 cI cJ cZ a8 (zs S 0 0) V)) (ref := "SecretBrokerModel") (ty := .int) C hX8_clear_X8 tyX8 tyX8_ok nmX8 0 rfl rfl 0 (by decide) kX8_clear_88 (fun _ h9 => h9) rfl (by decide +kernel) rfl rfl (Nat.le_of_ble_eq_true rfl) dX8_clear_14 (zs_val S 0 0) (zf_X8_0 cI cJ cZ a8 S V 0) ?_
    refine z_aload_n C dX8_clear_17 rfl 0 rfl ?_
    refine z_get (ref := "SecretBrokerModel") (v := .int ((zs S 0 0) 0 0)) C hX8_clear_X8 0 rfl rfl 0 (by decide) kX8_clear_88 (fun _ h9 => h9) rfl dX8_clear_18 ?_
    refine z_if_le (tgt := 26) C dX8_clear_21 (by decide) (fun c6 => ?_) (fun c6 => ?_)
    · have hF := zif hF c6
      refine z_aload_n C dX8_clear_26 rfl 0 rfl ?_
      refine z_get (ref := "SecretBrokerModel") (v := .ref (a8 1)) C hX8_clear_X8 0 rfl rfl 3 (by decide) kX8_clear_7 (fun _ h9 => h9) rfl dX8_clear_27 ?_
      refine z_iload_n C dX8_clear_30 rfl 1 rfl ?_
      obtain ⟨g7, hF⟩ := zix_some hF
      refine z_iald (v := ((S 3) x1.toNatClampNeg)) C g7 1 rfl rfl rfl dX8_clear_31 ?_
      refine z_istore_n (lv' := [(2, .int ((S 3) x1.toNatClampNeg)), (0, .ref (a8 0)), (1, .int x1)]) C dX8_clear_32 rfl (by decide) rfl ?_
      refine z_aload_n C dX8_clear_33 rfl 1 rfl ?_
      refine z_get (ref := "SecretBrokerModel") (v := .ref (a8 1)) C hX8_clear_X8 0 rfl rfl 3 (by decide) kX8_clear_7 (fun _ h9 => h9) rfl dX8_clear_34 ?_
      refine z_iload_n C dX8_clear_37 rfl 2 rfl ?_
      refine z_iconst (v := 0) C dX8_clear_38 (by decide) ?_
      obtain ⟨g8, hF⟩ := zix_some hF
      refine z_iast (ws' := (zwX8 cI cJ cZ a8 (za (zs S 0 0) 3 x1 0) V)) C g8 1 rfl rfl dX8_clear_39 (za_row (zs S 0 0) 3 x1 0) (zr_X8_3 cI cJ cZ a8 (zs S 0 0) V x1 0) ?_
      refine z_iload_n C dX8_clear_40 rfl 0 rfl ?_
      have hu := Option.some.inj hF
      subst hu
      exact z_iret C dX8_clear_41 rfl rfl
    · have hF := zelse hF c6
      refine z_iconst (v := 0) C dX8_clear_24 (by decide) ?_
      have hu := Option.some.inj hF
      subst hu
      exact z_iret C dX8_clear_25 rfl rfl
set_option maxHeartbeats 4000000 in
set_option maxRecDepth 100000 in
theorem c_X8_isLease (l : Launch) (D : va_G) (cI cJ cZ : ClassId) (x1 : Int32) (x2 : Int32) (u : Int32) (hF : f_X8_isLease x1 x2 = some u) : zM l yX8_isLease wsX8_isLease ({ frames := 0, cells := 0, slots := 0, locals := 0 }) D (zTy cI cJ cZ) [.int x1, .int x2] [] (some (.int u)) [] := by
  refine z_body (cc := cX8_isLease) (maxL := 2) (rty := (some .boolean)) (own := RX8) (lv := [(0, .int x1), (1, .int x2)]) (by decide +kernel) rfl rfl (Nat.le_of_ble_eq_true rfl) rfl (fun p e s m args below meth c A C => ?_)
  refine z_iload_n C dX8_isLease_0 rfl 0 rfl ?_
  refine z_iconst (v := 1) C dX8_isLease_1 (by decide) ?_
  refine z_icmp_lt (tgt := 28) C dX8_isLease_2 (by decide) (fun c1 => ?_) (fun c1 => ?_)
  · have hF := zif hF c1
    refine z_iconst (v := 0) C dX8_isLease_28 (by decide) ?_
    have hu := Option.some.inj hF
    subst hu
    exact z_iret C dX8_isLease_29 rfl z_b0
  · have hF := zelse hF c1
    refine z_iload_n C dX8_isLease_5 rfl 0 rfl ?_
    refine z_sipush (v := 1000) C dX8_isLease_6 (by decide) ?_
    refine z_icmp_gt (tgt := 28) C dX8_isLease_9 (by decide) (fun c2 => ?_) (fun c2 => ?_)
    · have hF := zif hF c2
      refine z_iconst (v := 0) C dX8_isLease_28 (by decide) ?_
      have hu := Option.some.inj hF
      subst hu
      exact z_iret C dX8_isLease_29 rfl z_b0
    · have hF := zelse hF c2
      refine z_iload_n C dX8_isLease_12 rfl 1 rfl ?_
      refine z_iload_n C dX8_isLease_13 rfl 0 rfl ?_
      refine z_icmp_lt (tgt := 28) C dX8_isLease_14 (by decide) (fun c3 => ?_) (fun c3 => ?_)
      · have hF := zif hF c3
        refine z_iconst (v := 0) C dX8_isLease_28 (by decide) ?_
        have hu := Option.some.inj hF
        subst hu
        exact z_iret C dX8_isLease_29 rfl z_b0
      · have hF := zelse hF c3
        refine z_iload_n C dX8_isLease_17 rfl 1 rfl ?_
        refine z_sipush (v := 5000) C dX8_isLease_18 (by decide) ?_
        refine z_icmp_gt (tgt := 28) C dX8_isLease_21 (by decide) (fun c4 => ?_) (fun c4 => ?_)
        · have hF := zif hF c4
          refine z_iconst (v := 0) C dX8_isLease_28 (by decide) ?_
          have hu := Option.some.inj hF
          subst hu
          exact z_iret C dX8_isLease_29 rfl z_b0
        · have hF := zelse hF c4
          refine z_iconst (v := 1) C dX8_isLease_24 (by decide) ?_
          refine z_goto (tgt := 29) C dX8_isLease_25 (by decide) ?_
          have hu := Option.some.inj hF
          subst hu
          exact z_iret C dX8_isLease_29 rfl z_b1
theorem kX8_mount_136 : Cond.fieldLink RX8 136 "SecretBrokerModel" "mounts" "I" ∈ wsX8_mount := by decide +kernel
theorem kX8_mount_88 : Cond.fieldLink RX8 88 "SecretBrokerModel" "thrown" "I" ∈ wsX8_mount := by decide +kernel
theorem kX8_mount_23 : Cond.fieldLink RX8 23 "SecretBrokerModel" "mountPath" "[I" ∈ wsX8_mount := by decide +kernel
theorem kX8_mount_26 : Cond.fieldLink RX8 26 "SecretBrokerModel" "mountMinutes" "[I" ∈ wsX8_mount := by decide +kernel
theorem kX8_mount_29 : Cond.fieldLink RX8 29 "SecretBrokerModel" "mountBound" "[I" ∈ wsX8_mount := by decide +kernel
theorem hX8_mount_X8 : ∀ w ∈ wsX80, w ∈ wsX8_mount := by decide +kernel
set_option maxHeartbeats 4000000 in
set_option maxRecDepth 100000 in
theorem c_X8_mount_j92 (l : Launch) (D : va_G) (cI cJ cZ : ClassId) (a8 : Nat → Nat) (S : SS) (V : SL) (u : Int32 × SS) {p : Program} {e : Env} {s : State} {m : MethodId} {args : Array Value} {below : List Frame} {meth : Method} {c : Code} {A : Nat → Prop} (C : zC p s m args meth c cX8_mount 5 (some .int) RX8 wsX8_mount D (zTy cI cJ cZ) A s.heap) : ∀ (Sc : SS) (v1 : Int32) (v2 : Int32) (v3 : Int32) (v4 : Int32) (s1 : Int32) (s2 : Int32), f_X8_mount_92 Sc v1 v2 v3 v4 s1 s2 = some u → zW p l e { frames := 3, cells := 0, slots := 0, locals := 65 } s m args below meth c 5 D A s.heap 0 0 (MQ below (zQ D (zTy cI cJ cZ) (some (.int u.1)) (zwX8 cI cJ cZ a8 u.2 V) A) args s 0 0 A) (zwX8 cI cJ cZ a8 Sc V) [(0, .ref (a8 0)), (1, .int v1), (2, .int v2), (3, .int v3), (4, .int v4)] 92 [.int s2, .int s1, .ref (a8 0)] := by
  intro Sc v1 v2 v3 v4 s1 s2 hF
  refine z_iadd C dX8_mount_92 ?_
  refine z_put (ws' := (zwX8 cI cJ cZ a8 (zs Sc 7 (s1 + s2)) V)) (ref := "SecretBrokerModel") (ty := .int) C hX8_mount_X8 tyX8 tyX8_ok nmX8 0 rfl rfl 7 (by decide) kX8_mount_136 (fun _ h9 => h9) rfl (by decide +kernel) rfl rfl (Nat.le_of_ble_eq_true rfl) dX8_mount_93 (zs_val Sc 7 (s1 + s2)) (zf_X8_7 cI cJ cZ a8 Sc V (s1 + s2)) ?_
  refine z_aload_n C dX8_mount_96 rfl 0 rfl ?_
  refine z_get (ref := "SecretBrokerModel") (v := .ref (a8 5)) C hX8_mount_X8 0 rfl rfl 8 (by decide) kX8_mount_23 (fun _ h9 => h9) rfl dX8_mount_97 ?_
  refine z_iload C dX8_mount_100 4 rfl ?_
  refine z_iload_n C dX8_mount_102 rfl 1 rfl ?_
  obtain ⟨g6, hF⟩ := zix_some hF
  refine z_iast (ws' := (zwX8 cI cJ cZ a8 (za (zs Sc 7 (s1 + s2)) 8 v4 v1) V)) C g6 5 rfl rfl dX8_mount_103 (za_row (zs Sc 7 (s1 + s2)) 8 v4 v1) (zr_X8_8 cI cJ cZ a8 (zs Sc 7 (s1 + s2)) V v4 v1) ?_
  refine z_aload_n C dX8_mount_104 rfl 0 rfl ?_
  refine z_get (ref := "SecretBrokerModel") (v := .ref (a8 6)) C hX8_mount_X8 0 rfl rfl 9 (by decide) kX8_mount_26 (fun _ h9 => h9) rfl dX8_mount_105 ?_
  refine z_iload C dX8_mount_108 4 rfl ?_
  refine z_iload_n C dX8_mount_110 rfl 2 rfl ?_
  obtain ⟨g7, hF⟩ := zix_some hF
  refine z_iast (ws' := (zwX8 cI cJ cZ a8 (za (za (zs Sc 7 (s1 + s2)) 8 v4 v1) 9 v4 v2) V)) C g7 6 rfl rfl dX8_mount_111 (za_row (za (zs Sc 7 (s1 + s2)) 8 v4 v1) 9 v4 v2) (zr_X8_9 cI cJ cZ a8 (za (zs Sc 7 (s1 + s2)) 8 v4 v1) V v4 v2) ?_
  refine z_aload_n C dX8_mount_112 rfl 0 rfl ?_
  refine z_get (ref := "SecretBrokerModel") (v := .ref (a8 7)) C hX8_mount_X8 0 rfl rfl 10 (by decide) kX8_mount_29 (fun _ h9 => h9) rfl dX8_mount_113 ?_
  refine z_iload C dX8_mount_116 4 rfl ?_
  refine z_iload_n C dX8_mount_118 rfl 3 rfl ?_
  obtain ⟨g8, hF⟩ := zix_some hF
  refine z_iast (ws' := (zwX8 cI cJ cZ a8 (za (za (za (zs Sc 7 (s1 + s2)) 8 v4 v1) 9 v4 v2) 10 v4 v3) V)) C g8 7 rfl rfl dX8_mount_119 (za_row (za (za (zs Sc 7 (s1 + s2)) 8 v4 v1) 9 v4 v2) 10 v4 v3) (zr_X8_10 cI cJ cZ a8 (za (za (zs Sc 7 (s1 + s2)) 8 v4 v1) 9 v4 v2) V v4 v3) ?_
  refine z_aload_n C dX8_mount_120 rfl 0 rfl ?_
  refine z_get (ref := "SecretBrokerModel") (v := .int ((za (za (za (zs Sc 7 (s1 + s2)) 8 v4 v1) 9 v4 v2) 10 v4 v3) 7 0)) C hX8_mount_X8 0 rfl rfl 7 (by decide) kX8_mount_136 (fun _ h9 => h9) rfl dX8_mount_121 ?_
  have hu := Option.some.inj hF
  subst hu
  exact z_iret C dX8_mount_124 rfl rfl
set_option maxHeartbeats 4000000 in
set_option maxRecDepth 100000 in
theorem c_X8_mount_j61 (l : Launch) (D : va_G) (cI cJ cZ : ClassId) (a8 : Nat → Nat) (S : SS) (V : SL) (u : Int32 × SS) {p : Program} {e : Env} {s : State} {m : MethodId} {args : Array Value} {below : List Frame} {meth : Method} {c : Code} {A : Nat → Prop} (C : zC p s m args meth c cX8_mount 5 (some .int) RX8 wsX8_mount D (zTy cI cJ cZ) A s.heap) : ∀ (Sc : SS) (v1 : Int32) (v2 : Int32) (v3 : Int32) (v4 : Int32) (s1 : Int32), f_X8_mount_61 Sc v1 v2 v3 v4 s1 = some u → zW p l e { frames := 3, cells := 0, slots := 0, locals := 65 } s m args below meth c 5 D A s.heap 0 0 (MQ below (zQ D (zTy cI cJ cZ) (some (.int u.1)) (zwX8 cI cJ cZ a8 u.2 V) A) args s 0 0 A) (zwX8 cI cJ cZ a8 Sc V) [(0, .ref (a8 0)), (1, .int v1), (2, .int v2), (3, .int v3), (4, .int v4)] 61 [.int s1, .ref (a8 0)] := by
  intro Sc v1 v2 v3 v4 s1 hF
  refine z_put (ws' := (zwX8 cI cJ cZ a8 (zs Sc 0 s1) V)) (ref := "SecretBrokerModel") (ty := .int) C hX8_mount_X8 tyX8 tyX8_ok nmX8 0 rfl rfl 0 (by decide) kX8_mount_88 (fun _ h9 => h9) rfl (by decide +kernel) rfl rfl (Nat.le_of_ble_eq_true rfl) dX8_mount_61 (zs_val Sc 0 s1) (zf_X8_0 cI cJ cZ a8 Sc V s1) ?_
  refine z_aload_n C dX8_mount_64 rfl 0 rfl ?_
  refine z_get (ref := "SecretBrokerModel") (v := .int ((zs Sc 0 s1) 0 0)) C hX8_mount_X8 0 rfl rfl 0 (by decide) kX8_mount_88 (fun _ h9 => h9) rfl dX8_mount_65 ?_
  refine z_if_le (tgt := 73) C dX8_mount_68 (by decide) (fun c4 => ?_) (fun c4 => ?_)
  · have hF := zif hF c4
    refine z_aload_n C dX8_mount_73 rfl 0 rfl ?_
    refine z_dup C dX8_mount_74 rfl ?_
    refine z_get (ref := "SecretBrokerModel") (v := .int (Sc 7 0)) C hX8_mount_X8 0 rfl rfl 7 (by decide) kX8_mount_136 (fun _ h9 => h9) rfl dX8_mount_75 ?_
    refine z_iload C dX8_mount_78 4 rfl ?_
    refine z_aload_n C dX8_mount_80 rfl 0 rfl ?_
    refine z_get (ref := "SecretBrokerModel") (v := .int (Sc 7 0)) C hX8_mount_X8 0 rfl rfl 7 (by decide) kX8_mount_136 (fun _ h9 => h9) rfl dX8_mount_81 ?_
    refine z_icmp_ne (tgt := 91) C dX8_mount_84 (by decide) (fun c5 => ?_) (fun c5 => ?_)
    · have hF := zelse hF c5
      refine z_iconst (v := 0) C dX8_mount_91 (by decide) ?_
      exact c_X8_mount_j92 l D cI cJ cZ a8 S V u C (zs Sc 0 s1) v1 v2 v3 v4 (Sc 7 0) 0 hF
    · have hF := zif hF c5
      refine z_iconst (v := 1) C dX8_mount_87 (by decide) ?_
      refine z_goto (tgt := 92) C dX8_mount_88 (by decide) ?_
      exact c_X8_mount_j92 l D cI cJ cZ a8 S V u C (zs Sc 0 s1) v1 v2 v3 v4 (Sc 7 0) 1 hF
  · have hF := zelse hF c4
    refine z_iconst (v := 0) C dX8_mount_71 (by decide) ?_
    have hu := Option.some.inj hF
    subst hu
    exact z_iret C dX8_mount_72 rfl rfl
set_option maxHeartbeats 4000000 in
set_option maxRecDepth 100000 in
theorem c_X8_mount_j45 (l : Launch) (D : va_G) (cI cJ cZ : ClassId) (a8 : Nat → Nat) (S : SS) (V : SL) (u : Int32 × SS) {p : Program} {e : Env} {s : State} {m : MethodId} {args : Array Value} {below : List Frame} {meth : Method} {c : Code} {A : Nat → Prop} (C : zC p s m args meth c cX8_mount 5 (some .int) RX8 wsX8_mount D (zTy cI cJ cZ) A s.heap) : ∀ (Sc : SS) (v1 : Int32) (v2 : Int32) (v3 : Int32) (v4 : Int32), f_X8_mount_45 Sc v1 v2 v3 v4 = some u → zW p l e { frames := 3, cells := 0, slots := 0, locals := 65 } s m args below meth c 5 D A s.heap 0 0 (MQ below (zQ D (zTy cI cJ cZ) (some (.int u.1)) (zwX8 cI cJ cZ a8 u.2 V) A) args s 0 0 A) (zwX8 cI cJ cZ a8 Sc V) [(0, .ref (a8 0)), (1, .int v1), (2, .int v2), (3, .int v3), (4, .int v4)] 45 [.ref (a8 0)] := by
  intro Sc v1 v2 v3 v4 hF
  refine z_iconst (v := 1) C dX8_mount_45 (by decide) ?_
  refine z_goto (tgt := 61) C dX8_mount_46 (by decide) ?_
  exact c_X8_mount_j61 l D cI cJ cZ a8 S V u C Sc v1 v2 v3 v4 1 hF
set_option maxHeartbeats 4000000 in
set_option maxRecDepth 100000 in
theorem c_X8_mount_j29 (l : Launch) (D : va_G) (cI cJ cZ : ClassId) (a8 : Nat → Nat) (S : SS) (V : SL) (u : Int32 × SS) {p : Program} {e : Env} {s : State} {m : MethodId} {args : Array Value} {below : List Frame} {meth : Method} {c : Code} {A : Nat → Prop} (C : zC p s m args meth c cX8_mount 5 (some .int) RX8 wsX8_mount D (zTy cI cJ cZ) A s.heap) : ∀ (Sc : SS) (v1 : Int32) (v2 : Int32) (v3 : Int32) (v4 : Int32), f_X8_mount_29 Sc v1 v2 v3 v4 = some u → zW p l e { frames := 3, cells := 0, slots := 0, locals := 65 } s m args below meth c 5 D A s.heap 0 0 (MQ below (zQ D (zTy cI cJ cZ) (some (.int u.1)) (zwX8 cI cJ cZ a8 u.2 V) A) args s 0 0 A) (zwX8 cI cJ cZ a8 Sc V) [(0, .ref (a8 0)), (1, .int v1), (2, .int v2), (3, .int v3), (4, .int v4)] 29 [] := by
  intro Sc v1 v2 v3 v4 hF
  refine z_aload_n C dX8_mount_29 rfl 0 rfl ?_
  refine z_iload_n C dX8_mount_30 rfl 1 rfl ?_
  obtain ⟨r2, er2, hF⟩ := zbd hF
  refine z_callS (n := 1) (As := [.int v1]) C (c_X8_isPath l D cI cJ cZ v1 r2 er2) gX8_mount_X8_isPath rfl rfl rfl (by decide +kernel) ⟨Nat.le_of_ble_eq_true rfl, Nat.le_of_ble_eq_true rfl⟩ ⟨Nat.zero_le _, Nat.zero_le _⟩ rfl rfl (Nat.le_of_ble_eq_true rfl) dX8_mount_31 ?_
  refine z_if_eq (tgt := 45) C dX8_mount_34 (by decide) (fun c3 => ?_) (fun c3 => ?_)
  · have hF := zif hF c3
    exact c_X8_mount_j45 l D cI cJ cZ a8 S V u C Sc v1 v2 v3 v4 hF
  · have hF := zelse hF c3
    refine z_iload_n C dX8_mount_37 rfl 2 rfl ?_
    refine z_iload_n C dX8_mount_38 rfl 3 rfl ?_
    obtain ⟨r9, er9, hF⟩ := zbd hF
    refine z_callS (n := 2) (As := [.int v2, .int v3]) C (c_X8_isLease l D cI cJ cZ v2 v3 r9 er9) gX8_mount_X8_isLease rfl rfl rfl (by decide +kernel) ⟨Nat.le_of_ble_eq_true rfl, Nat.le_of_ble_eq_true rfl⟩ ⟨Nat.zero_le _, Nat.zero_le _⟩ rfl rfl (Nat.le_of_ble_eq_true rfl) dX8_mount_39 ?_
    refine z_if_ne (tgt := 49) C dX8_mount_42 (by decide) (fun c10 => ?_) (fun c10 => ?_)
    · have hF := zelse hF c10
      refine z_iload C dX8_mount_49 4 rfl ?_
      refine z_bipush (v := 6) C dX8_mount_51 (by decide) ?_
      refine z_icmp_ne (tgt := 60) C dX8_mount_53 (by decide) (fun c11 => ?_) (fun c11 => ?_)
      · have hF := zelse hF c11
        refine z_iconst (v := 0) C dX8_mount_60 (by decide) ?_
        exact c_X8_mount_j61 l D cI cJ cZ a8 S V u C Sc v1 v2 v3 v4 0 hF
      · have hF := zif hF c11
        refine z_iconst (v := 2) C dX8_mount_56 (by decide) ?_
        refine z_goto (tgt := 61) C dX8_mount_57 (by decide) ?_
        exact c_X8_mount_j61 l D cI cJ cZ a8 S V u C Sc v1 v2 v3 v4 2 hF
    · have hF := zif hF c10
      exact c_X8_mount_j45 l D cI cJ cZ a8 S V u C Sc v1 v2 v3 v4 hF
set_option maxHeartbeats 4000000 in
set_option maxRecDepth 100000 in
theorem c_X8_mount_j3 (l : Launch) (D : va_G) (cI cJ cZ : ClassId) (a8 : Nat → Nat) (S : SS) (V : SL) (u : Int32 × SS) {p : Program} {e : Env} {s : State} {m : MethodId} {args : Array Value} {below : List Frame} {meth : Method} {c : Code} {A : Nat → Prop} (C : zC p s m args meth c cX8_mount 5 (some .int) RX8 wsX8_mount D (zTy cI cJ cZ) A s.heap) : ∀ (n : Nat) (Sc : SS) (v1 : Int32) (v2 : Int32) (v3 : Int32) (v4 : Int32), f_X8_mount_3 n Sc v1 v2 v3 v4 = some u → zW p l e { frames := 3, cells := 0, slots := 0, locals := 65 } s m args below meth c 5 D A s.heap 0 0 (MQ below (zQ D (zTy cI cJ cZ) (some (.int u.1)) (zwX8 cI cJ cZ a8 u.2 V) A) args s 0 0 A) (zwX8 cI cJ cZ a8 Sc V) [(0, .ref (a8 0)), (1, .int v1), (2, .int v2), (3, .int v3), (4, .int v4)] 3 [] := by
  intro n
  induction n with
  | zero => intro Sc v1 v2 v3 v4 hF; exact absurd (show none = some u from hF) (fun q => nomatch q)
  | succ n ih =>
    intro Sc v1 v2 v3 v4 hF
    refine z_iload C dX8_mount_3 4 rfl ?_
    refine z_aload_n C dX8_mount_5 rfl 0 rfl ?_
    refine z_get (ref := "SecretBrokerModel") (v := .int (Sc 7 0)) C hX8_mount_X8 0 rfl rfl 7 (by decide) kX8_mount_136 (fun _ h9 => h9) rfl dX8_mount_6 ?_
    refine z_icmp_ge (tgt := 29) C dX8_mount_9 (by decide) (fun c1 => ?_) (fun c1 => ?_)
    · have hF := zif hF c1
      exact c_X8_mount_j29 l D cI cJ cZ a8 S V u C Sc v1 v2 v3 v4 hF
    · have hF := zelse hF c1
      refine z_aload_n C dX8_mount_12 rfl 0 rfl ?_
      refine z_get (ref := "SecretBrokerModel") (v := .ref (a8 5)) C hX8_mount_X8 0 rfl rfl 8 (by decide) kX8_mount_23 (fun _ h9 => h9) rfl dX8_mount_13 ?_
      refine z_iload C dX8_mount_16 4 rfl ?_
      obtain ⟨g12, hF⟩ := zix_some hF
      refine z_iald (v := ((Sc 8) v4.toNatClampNeg)) C g12 5 rfl rfl rfl dX8_mount_18 ?_
      refine z_iload_n C dX8_mount_19 rfl 1 rfl ?_
      refine z_icmp_eq (tgt := 29) C dX8_mount_20 (by decide) (fun c13 => ?_) (fun c13 => ?_)
      · have hF := zif hF c13
        exact c_X8_mount_j29 l D cI cJ cZ a8 S V u C Sc v1 v2 v3 v4 hF
      · have hF := zelse hF c13
        refine z_iinc (v := (v4 + 1)) (lv' := [(4, .int (v4 + 1)), (0, .ref (a8 0)), (1, .int v1), (2, .int v2), (3, .int v3)]) C dX8_mount_23 4 rfl rfl (by decide) rfl ?_
        refine z_goto (tgt := 3) C dX8_mount_26 (by decide) ?_
        exact z_sub C [1, 2, 3, 4, 0] rfl (ih Sc v1 v2 v3 (v4 + 1) hF)
set_option maxHeartbeats 4000000 in
set_option maxRecDepth 100000 in
theorem c_X8_mount (l : Launch) (D : va_G) (cI cJ cZ : ClassId) (a8 : Nat → Nat) (S : SS) (V : SL) (x1 : Int32) (x2 : Int32) (x3 : Int32) (u : Int32 × SS) (hF : f_X8_mount S x1 x2 x3 = some u) : zM l yX8_mount wsX8_mount ({ frames := 3, cells := 0, slots := 0, locals := 65 }) D (zTy cI cJ cZ) [.ref (a8 0), .int x1, .int x2, .int x3] (zwX8 cI cJ cZ a8 S V) (some (.int u.1)) (zwX8 cI cJ cZ a8 u.2 V) := by
  refine z_body (cc := cX8_mount) (maxL := 5) (rty := (some .int)) (own := RX8) (lv := [(0, .ref (a8 0)), (1, .int x1), (2, .int x2), (3, .int x3)]) (by decide +kernel) rfl rfl (Nat.le_of_ble_eq_true rfl) rfl (fun p e s m args below meth c A C => ?_)
  refine z_iconst (v := 0) C dX8_mount_0 (by decide) ?_
  refine z_istore (lv' := [(4, .int 0), (0, .ref (a8 0)), (1, .int x1), (2, .int x2), (3, .int x3)]) C dX8_mount_1 (by decide) rfl ?_
  exact z_sub C [1, 2, 3, 4, 0] rfl (c_X8_mount_j3 l D cI cJ cZ a8 S V u C 600 S x1 x2 x3 0 hF)
theorem kX8_manyTokens_32 : Cond.fieldLink RX8 32 "SecretBrokerModel" "made" "I" ∈ wsX8_manyTokens := by decide +kernel
theorem kX8_manyTokens_36 : Cond.fieldLink RX8 36 "SecretBrokerModel" "isAlive" "[Z" ∈ wsX8_manyTokens := by decide +kernel
theorem hX8_manyTokens_X8 : ∀ w ∈ wsX80, w ∈ wsX8_manyTokens := by decide +kernel
set_option maxHeartbeats 4000000 in
set_option maxRecDepth 100000 in
theorem c_X8_manyTokens_j4 (l : Launch) (D : va_G) (cI cJ cZ : ClassId) (a8 : Nat → Nat) (S : SS) (V : SL) (u : Int32) {p : Program} {e : Env} {s : State} {m : MethodId} {args : Array Value} {below : List Frame} {meth : Method} {c : Code} {A : Nat → Prop} (C : zC p s m args meth c cX8_manyTokens 3 (some .int) RX8 wsX8_manyTokens D (zTy cI cJ cZ) A s.heap) : ∀ (n : Nat) (v1 : Int32) (v2 : Int32), f_X8_manyTokens_4 S n v1 v2 = some u → zW p l e { frames := 0, cells := 0, slots := 0, locals := 0 } s m args below meth c 3 D A s.heap 0 0 (MQ below (zQ D (zTy cI cJ cZ) (some (.int u)) (zwX8 cI cJ cZ a8 S V) A) args s 0 0 A) (zwX8 cI cJ cZ a8 S V) [(0, .ref (a8 0)), (1, .int v1), (2, .int v2)] 4 [] := by
  intro n
  induction n with
  | zero => intro v1 v2 hF; exact absurd (show none = some u from hF) (fun q => nomatch q)
  | succ n ih =>
    intro v1 v2 hF
    refine z_iload_n C dX8_manyTokens_4 rfl 2 rfl ?_
    refine z_aload_n C dX8_manyTokens_5 rfl 0 rfl ?_
    refine z_get (ref := "SecretBrokerModel") (v := .int (S 11 0)) C hX8_manyTokens_X8 0 rfl rfl 11 (by decide) kX8_manyTokens_32 (fun _ h9 => h9) rfl dX8_manyTokens_6 ?_
    refine z_icmp_ge (tgt := 35) C dX8_manyTokens_9 (by decide) (fun c1 => ?_) (fun c1 => ?_)
    · have hF := zif hF c1
      refine z_iload_n C dX8_manyTokens_35 rfl 1 rfl ?_
      have hu := Option.some.inj hF
      subst hu
      exact z_iret C dX8_manyTokens_36 rfl rfl
    · have hF := zelse hF c1
      refine z_iload_n C dX8_manyTokens_12 rfl 1 rfl ?_
      refine z_aload_n C dX8_manyTokens_13 rfl 0 rfl ?_
      refine z_get (ref := "SecretBrokerModel") (v := .ref (a8 8)) C hX8_manyTokens_X8 0 rfl rfl 12 (by decide) kX8_manyTokens_36 (fun _ h9 => h9) rfl dX8_manyTokens_14 ?_
      refine z_iload_n C dX8_manyTokens_17 rfl 2 rfl ?_
      obtain ⟨g2, hF⟩ := zix_some hF
      refine z_zald (v := ((S 12) v2.toNatClampNeg)) C g2 8 rfl rfl rfl dX8_manyTokens_18 ?_
      refine z_if_eq (tgt := 26) C dX8_manyTokens_19 (by decide) (fun c3 => ?_) (fun c3 => ?_)
      · have hF := zif hF c3
        refine z_iconst (v := 0) C dX8_manyTokens_26 (by decide) ?_
        refine z_iadd C dX8_manyTokens_27 ?_
        refine z_istore_n (lv' := [(1, .int (v1 + 0)), (0, .ref (a8 0)), (2, .int v2)]) C dX8_manyTokens_28 rfl (by decide) rfl ?_
        refine z_iinc (v := (v2 + 1)) (lv' := [(2, .int (v2 + 1)), (1, .int (v1 + 0)), (0, .ref (a8 0))]) C dX8_manyTokens_29 2 rfl rfl (by decide) rfl ?_
        refine z_goto (tgt := 4) C dX8_manyTokens_32 (by decide) ?_
        exact z_sub C [2, 1, 0] rfl (ih (v1 + 0) (v2 + 1) hF)
      · have hF := zelse hF c3
        refine z_iconst (v := 1) C dX8_manyTokens_22 (by decide) ?_
        refine z_goto (tgt := 27) C dX8_manyTokens_23 (by decide) ?_
        refine z_iadd C dX8_manyTokens_27 ?_
        refine z_istore_n (lv' := [(1, .int (v1 + 1)), (0, .ref (a8 0)), (2, .int v2)]) C dX8_manyTokens_28 rfl (by decide) rfl ?_
        refine z_iinc (v := (v2 + 1)) (lv' := [(2, .int (v2 + 1)), (1, .int (v1 + 1)), (0, .ref (a8 0))]) C dX8_manyTokens_29 2 rfl rfl (by decide) rfl ?_
        refine z_goto (tgt := 4) C dX8_manyTokens_32 (by decide) ?_
        exact z_sub C [2, 1, 0] rfl (ih (v1 + 1) (v2 + 1) hF)
set_option maxHeartbeats 4000000 in
set_option maxRecDepth 100000 in
theorem c_X8_manyTokens (l : Launch) (D : va_G) (cI cJ cZ : ClassId) (a8 : Nat → Nat) (S : SS) (V : SL) (u : Int32) (hF : f_X8_manyTokens S = some u) : zM l yX8_manyTokens wsX8_manyTokens ({ frames := 0, cells := 0, slots := 0, locals := 0 }) D (zTy cI cJ cZ) [.ref (a8 0)] (zwX8 cI cJ cZ a8 S V) (some (.int u)) (zwX8 cI cJ cZ a8 S V) := by
  refine z_body (cc := cX8_manyTokens) (maxL := 3) (rty := (some .int)) (own := RX8) (lv := [(0, .ref (a8 0))]) (by decide +kernel) rfl rfl (Nat.le_of_ble_eq_true rfl) rfl (fun p e s m args below meth c A C => ?_)
  refine z_iconst (v := 0) C dX8_manyTokens_0 (by decide) ?_
  refine z_istore_n (lv' := [(1, .int 0), (0, .ref (a8 0))]) C dX8_manyTokens_1 rfl (by decide) rfl ?_
  refine z_iconst (v := 0) C dX8_manyTokens_2 (by decide) ?_
  refine z_istore_n (lv' := [(2, .int 0), (1, .int 0), (0, .ref (a8 0))]) C dX8_manyTokens_3 rfl (by decide) rfl ?_
  exact z_sub C [2, 1, 0] rfl (c_X8_manyTokens_j4 l D cI cJ cZ a8 S V u C 600 0 0 hF)
