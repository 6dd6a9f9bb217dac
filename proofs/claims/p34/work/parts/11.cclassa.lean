theorem zbad_ISE : ∀ w ∈ (vx_atS RX7 56 "java/lang/IllegalStateException" ["java/lang/RuntimeException", "java/lang/Exception"]).filter (fun w => !goodWord w), w ∈ [Cond.castable "java/lang/IllegalStateException" "java/lang/IllegalStateException", Cond.declares (Bundle.initS "java/lang/RuntimeException"), Cond.declares (Bundle.initS "java/lang/Exception"), Cond.declares (Bundle.initS Bundle.tN)] := by decide +kernel
theorem zgood_ISE : ∀ w ∈ Cond.classLink RX7 52 "java/lang/IllegalStateException" :: Cond.initialized "java/lang/IllegalStateException" :: vx_atS RX7 56 "java/lang/IllegalStateException" ["java/lang/RuntimeException", "java/lang/Exception"], vx_ot w = true := by decide +kernel
theorem zbad_IAE : ∀ w ∈ (vx_atS RX7 76 "java/lang/IllegalArgumentException" ["java/lang/RuntimeException", "java/lang/Exception"]).filter (fun w => !goodWord w), w ∈ [Cond.castable "java/lang/IllegalArgumentException" "java/lang/IllegalArgumentException", Cond.declares (Bundle.initS "java/lang/RuntimeException"), Cond.declares (Bundle.initS "java/lang/Exception"), Cond.declares (Bundle.initS Bundle.tN)] := by decide +kernel
theorem zgood_IAE : ∀ w ∈ Cond.classLink RX7 72 "java/lang/IllegalArgumentException" :: Cond.initialized "java/lang/IllegalArgumentException" :: vx_atS RX7 76 "java/lang/IllegalArgumentException" ["java/lang/RuntimeException", "java/lang/Exception"], vx_ot w = true := by decide +kernel
theorem zbad_IOE : ∀ w ∈ (vx_atS RX7 247 "java/lang/IndexOutOfBoundsException" ["java/lang/RuntimeException", "java/lang/Exception"]).filter (fun w => !goodWord w), w ∈ [Cond.castable "java/lang/IndexOutOfBoundsException" "java/lang/IndexOutOfBoundsException", Cond.declares (Bundle.initS "java/lang/RuntimeException"), Cond.declares (Bundle.initS "java/lang/Exception"), Cond.declares (Bundle.initS Bundle.tN)] := by decide +kernel
theorem zgood_IOE : ∀ w ∈ Cond.classLink RX7 243 "java/lang/IndexOutOfBoundsException" :: Cond.initialized "java/lang/IndexOutOfBoundsException" :: vx_atS RX7 247 "java/lang/IndexOutOfBoundsException" ["java/lang/RuntimeException", "java/lang/Exception"], vx_ot w = true := by decide +kernel
theorem kX7_policy_10 : Cond.fieldLink RX7 10 "SecretBroker" "policyTable" "LSecretBroker$Policies;" ∈ wsX7_policy := by decide +kernel
theorem kX7_policy_52 : Cond.classLink RX7 52 "java/lang/IllegalStateException" ∈ wsX7_policy := by decide +kernel
theorem kX7_policy_95052 : Cond.initialized "java/lang/IllegalStateException" ∈ wsX7_policy := by decide +kernel
theorem hX7_policy_X7 : ∀ w ∈ wsX70, w ∈ wsX7_policy := by decide +kernel
set_option maxHeartbeats 4000000 in
set_option maxRecDepth 100000 in
theorem c_X7_policy (l : Launch) (hl : l.stackTraces = false) (D : va_G) (cI cJ cZ : ClassId) (ab : Nat) (a5 : Nat → Nat) (a3 : Nat → Nat) (a6 : Nat → Nat) (a1 : Nat → Nat) (a0 : Nat → Nat) (B : SS) (P : SS) (M : SS) (T : SS) (K : SS) (U : SS) (L : SL) (u : String ⊕ (Int32 × SS)) (hF : f_X7_policy P = some u) : zO l yX7_policy wsX7_policy 6 92 D (zTy cI cJ cZ) [.ref ab] (zwX7 cI cJ cZ ab a5 a3 a6 a1 a0 B P M T K U L) (zo (fun (v : (Int32 × SS)) => ((some (.int v.1)), (zwX7 cI cJ cZ ab a5 a3 a6 a1 a0 B v.2 M T K U L))) u) := by
  refine z_xbody (cc := cX7_policy) (maxL := 1) (rty := (some .int)) (own := RX7) (lv := [(0, .ref ab)]) (by decide +kernel) rfl rfl (Nat.le_of_ble_eq_true rfl) rfl (fun p e s m args below meth c A C X => ?_)
  refine z_aload_n C dX7_policy_0 rfl 0 rfl ?_
  refine z_get (ref := "SecretBroker") (v := .ref (a5 0)) C hX7_policy_X7 0 rfl rfl 0 (by decide) kX7_policy_10 (fun _ h9 => h9) rfl dX7_policy_1 ?_
  obtain ⟨r1, er1, hF⟩ := zbd hF
  refine z_callV (n := 0) (As := []) (ws' := (zwX7 cI cJ cZ ab a5 a3 a6 a1 a0 B P M T K U L)) C (c_X5_count l D cI cJ cZ a5 P r1 er1) gX7_policy_X5_count rfl rfl rfl (by decide +kernel) ⟨Nat.le_of_ble_eq_true rfl, Nat.le_of_ble_eq_true rfl⟩ ⟨Nat.zero_le _, Nat.zero_le _⟩ 1 rfl rfl (zwB ab a5 a3 a6 a1 a0 B) (zwX3 cI cJ cZ a3 M ++ zwX6 cI cJ cZ a6 T ++ zwX1 cI cJ cZ a1 K ++ zwX0 cI cJ cZ a0 U L) rfl rfl rfl rfl (Nat.le_of_ble_eq_true rfl) dX7_policy_4 ?_
  refine z_bipush (v := 8) C dX7_policy_7 (by decide) ?_
  refine z_icmp_lt (tgt := 22) C dX7_policy_9 (by decide) (fun c2 => ?_) (fun c2 => ?_)
  · have hF := zif hF c2
    refine z_aload_n C dX7_policy_22 rfl 0 rfl ?_
    refine z_get (ref := "SecretBroker") (v := .ref (a5 0)) C hX7_policy_X7 0 rfl rfl 0 (by decide) kX7_policy_10 (fun _ h9 => h9) rfl dX7_policy_23 ?_
    obtain ⟨r3, er3, hF⟩ := zbd hF
    refine z_callV (n := 0) (As := []) (ws' := (zwX7 cI cJ cZ ab a5 a3 a6 a1 a0 B r3.2 M T K U L)) C (c_X5_add l D cI cJ cZ a5 P r3 er3) gX7_policy_X5_add rfl rfl rfl (by decide +kernel) ⟨Nat.le_of_ble_eq_true rfl, Nat.le_of_ble_eq_true rfl⟩ ⟨Nat.zero_le _, Nat.zero_le _⟩ 1 rfl rfl (zwB ab a5 a3 a6 a1 a0 B) (zwX3 cI cJ cZ a3 M ++ zwX6 cI cJ cZ a6 T ++ zwX1 cI cJ cZ a1 K ++ zwX0 cI cJ cZ a0 U L) rfl rfl rfl rfl (Nat.le_of_ble_eq_true rfl) dX7_policy_26 ?_
    have hu := Option.some.inj hF
    subst hu
    exact z_xiret C dX7_policy_29 rfl rfl
  · have hF := zelse hF c2
    have hu := Option.some.inj hF
    subst hu
    exact z_throw (E := "java/lang/IllegalStateException") (text := "there are 8 policies") C X hl (by decide +kernel) kX7_policy_52 kX7_policy_95052 (by decide +kernel) (fun w h => List.mem_cons_of_mem _ (List.mem_append_right _ h)) zbad_ISE X.1.2.2.1.1.1 zgood_ISE dX7_policy_12 dX7_policy_15 dX7_policy_16 dX7_policy_18 dX7_policy_21 (Nat.le_of_ble_eq_true rfl) (Nat.le_of_ble_eq_true rfl)
theorem kX7_checkPolicy_10 : Cond.fieldLink RX7 10 "SecretBroker" "policyTable" "LSecretBroker$Policies;" ∈ wsX7_checkPolicy := by decide +kernel
theorem kX7_checkPolicy_243 : Cond.classLink RX7 243 "java/lang/IndexOutOfBoundsException" ∈ wsX7_checkPolicy := by decide +kernel
theorem kX7_checkPolicy_95243 : Cond.initialized "java/lang/IndexOutOfBoundsException" ∈ wsX7_checkPolicy := by decide +kernel
theorem hX7_checkPolicy_X7 : ∀ w ∈ wsX70, w ∈ wsX7_checkPolicy := by decide +kernel
set_option maxHeartbeats 4000000 in
set_option maxRecDepth 100000 in
theorem c_X7_checkPolicy (l : Launch) (hl : l.stackTraces = false) (D : va_G) (cI cJ cZ : ClassId) (ab : Nat) (a5 : Nat → Nat) (a3 : Nat → Nat) (a6 : Nat → Nat) (a1 : Nat → Nat) (a0 : Nat → Nat) (B : SS) (P : SS) (M : SS) (T : SS) (K : SS) (U : SS) (L : SL) (x1 : Int32) (u : String ⊕ Unit) (hF : f_X7_checkPolicy P x1 = some u) : zO l yX7_checkPolicy wsX7_checkPolicy 6 92 D (zTy cI cJ cZ) [.ref ab, .int x1] (zwX7 cI cJ cZ ab a5 a3 a6 a1 a0 B P M T K U L) (zo (fun (v : Unit) => (none, (zwX7 cI cJ cZ ab a5 a3 a6 a1 a0 B P M T K U L))) u) := by
  refine z_xbody (cc := cX7_checkPolicy) (maxL := 2) (rty := none) (own := RX7) (lv := [(0, .ref ab), (1, .int x1)]) (by decide +kernel) rfl rfl (Nat.le_of_ble_eq_true rfl) rfl (fun p e s m args below meth c A C X => ?_)
  refine z_aload_n C dX7_checkPolicy_0 rfl 0 rfl ?_
  refine z_get (ref := "SecretBroker") (v := .ref (a5 0)) C hX7_checkPolicy_X7 0 rfl rfl 0 (by decide) kX7_checkPolicy_10 (fun _ h9 => h9) rfl dX7_checkPolicy_1 ?_
  refine z_iload_n C dX7_checkPolicy_4 rfl 1 rfl ?_
  obtain ⟨r1, er1, hF⟩ := zbd hF
  refine z_callV (n := 1) (As := [.int x1]) (ws' := (zwX7 cI cJ cZ ab a5 a3 a6 a1 a0 B P M T K U L)) C (c_X5_has l D cI cJ cZ a5 P x1 r1 er1) gX7_checkPolicy_X5_has rfl rfl rfl (by decide +kernel) ⟨Nat.le_of_ble_eq_true rfl, Nat.le_of_ble_eq_true rfl⟩ ⟨Nat.zero_le _, Nat.zero_le _⟩ 1 rfl rfl (zwB ab a5 a3 a6 a1 a0 B) (zwX3 cI cJ cZ a3 M ++ zwX6 cI cJ cZ a6 T ++ zwX1 cI cJ cZ a1 K ++ zwX0 cI cJ cZ a0 U L) rfl rfl rfl rfl (Nat.le_of_ble_eq_true rfl) dX7_checkPolicy_5 ?_
  refine z_if_ne (tgt := 21) C dX7_checkPolicy_8 (by decide) (fun c2 => ?_) (fun c2 => ?_)
  · have hF := zelse hF c2
    have hu := Option.some.inj hF
    subst hu
    exact z_xvret C dX7_checkPolicy_21 rfl
  · have hF := zif hF c2
    have hu := Option.some.inj hF
    subst hu
    exact z_throw (E := "java/lang/IndexOutOfBoundsException") (text := "no such policy") C X hl (by decide +kernel) kX7_checkPolicy_243 kX7_checkPolicy_95243 (by decide +kernel) (fun w h => List.mem_cons_of_mem _ (List.mem_append_right _ h)) zbad_IOE X.1.2.2.1.1.2.2 zgood_IOE dX7_checkPolicy_11 dX7_checkPolicy_14 dX7_checkPolicy_15 dX7_checkPolicy_17 dX7_checkPolicy_20 (Nat.le_of_ble_eq_true rfl) (Nat.le_of_ble_eq_true rfl)
theorem kX7_checkRange_72 : Cond.classLink RX7 72 "java/lang/IllegalArgumentException" ∈ wsX7_checkRange := by decide +kernel
theorem kX7_checkRange_95072 : Cond.initialized "java/lang/IllegalArgumentException" ∈ wsX7_checkRange := by decide +kernel
set_option maxHeartbeats 4000000 in
set_option maxRecDepth 100000 in
theorem c_X7_checkRange (l : Launch) (hl : l.stackTraces = false) (D : va_G) (cI cJ cZ : ClassId) (x1 : Int32) (x2 : Int32) (x3 : Int32) (u : String ⊕ Unit) (hF : f_X7_checkRange x1 x2 x3 = some u) : zO l yX7_checkRange wsX7_checkRange 6 92 D (zTy cI cJ cZ) [.int x1, .int x2, .int x3] [] (zo (fun (v : Unit) => (none, [])) u) := by
  refine z_xbody (cc := cX7_checkRange) (maxL := 3) (rty := none) (own := RX7) (lv := [(0, .int x1), (1, .int x2), (2, .int x3)]) (by decide +kernel) rfl rfl (Nat.le_of_ble_eq_true rfl) rfl (fun p e s m args below meth c A C X => ?_)
  refine z_iload_n C dX7_checkRange_0 rfl 0 rfl ?_
  refine z_iload_n C dX7_checkRange_1 rfl 1 rfl ?_
  refine z_icmp_lt (tgt := 10) C dX7_checkRange_2 (by decide) (fun c1 => ?_) (fun c1 => ?_)
  · have hF := zif hF c1
    have hu := Option.some.inj hF
    subst hu
    exact z_throwW (E := "java/lang/IllegalArgumentException") (text := "out of its range") C X hl (by decide +kernel) kX7_checkRange_72 kX7_checkRange_95072 (by decide +kernel) (fun w h => List.mem_cons_of_mem _ (List.mem_append_right _ h)) zbad_IAE X.1.2.2.1.1.2.1 zgood_IAE dX7_checkRange_10 dX7_checkRange_13 dX7_checkRange_14 dX7_checkRange_17 dX7_checkRange_20 (Nat.le_of_ble_eq_true rfl) (Nat.le_of_ble_eq_true rfl)
  · have hF := zelse hF c1
    refine z_iload_n C dX7_checkRange_5 rfl 0 rfl ?_
    refine z_iload_n C dX7_checkRange_6 rfl 2 rfl ?_
    refine z_icmp_le (tgt := 21) C dX7_checkRange_7 (by decide) (fun c2 => ?_) (fun c2 => ?_)
    · have hF := zif hF c2
      have hu := Option.some.inj hF
      subst hu
      exact z_xvret C dX7_checkRange_21 rfl
    · have hF := zelse hF c2
      have hu := Option.some.inj hF
      subst hu
      exact z_throwW (E := "java/lang/IllegalArgumentException") (text := "out of its range") C X hl (by decide +kernel) kX7_checkRange_72 kX7_checkRange_95072 (by decide +kernel) (fun w h => List.mem_cons_of_mem _ (List.mem_append_right _ h)) zbad_IAE X.1.2.2.1.1.2.1 zgood_IAE dX7_checkRange_10 dX7_checkRange_13 dX7_checkRange_14 dX7_checkRange_17 dX7_checkRange_20 (Nat.le_of_ble_eq_true rfl) (Nat.le_of_ble_eq_true rfl)
theorem kX7_allow_10 : Cond.fieldLink RX7 10 "SecretBroker" "policyTable" "LSecretBroker$Policies;" ∈ wsX7_allow := by decide +kernel
theorem kX7_allow_52 : Cond.classLink RX7 52 "java/lang/IllegalStateException" ∈ wsX7_allow := by decide +kernel
theorem kX7_allow_95052 : Cond.initialized "java/lang/IllegalStateException" ∈ wsX7_allow := by decide +kernel
theorem kX7_allow_72 : Cond.classLink RX7 72 "java/lang/IllegalArgumentException" ∈ wsX7_allow := by decide +kernel
theorem kX7_allow_95072 : Cond.initialized "java/lang/IllegalArgumentException" ∈ wsX7_allow := by decide +kernel
theorem hX7_allow_X7 : ∀ w ∈ wsX70, w ∈ wsX7_allow := by decide +kernel
set_option maxHeartbeats 4000000 in
set_option maxRecDepth 100000 in
theorem c_X7_allow (l : Launch) (hl : l.stackTraces = false) (D : va_G) (cI cJ cZ : ClassId) (ab : Nat) (a5 : Nat → Nat) (a3 : Nat → Nat) (a6 : Nat → Nat) (a1 : Nat → Nat) (a0 : Nat → Nat) (B : SS) (P : SS) (M : SS) (T : SS) (K : SS) (U : SS) (L : SL) (x1 : Int32) (x2 : Int32) (x3 : Int32) (x4 : Int32) (u : String ⊕ (Int32 × SS)) (hF : f_X7_allow P x1 x2 x3 x4 = some u) : zO l yX7_allow wsX7_allow 7 114 D (zTy cI cJ cZ) [.ref ab, .int x1, .int x2, .int x3, .int x4] (zwX7 cI cJ cZ ab a5 a3 a6 a1 a0 B P M T K U L) (zo (fun (v : (Int32 × SS)) => ((some (.int v.1)), (zwX7 cI cJ cZ ab a5 a3 a6 a1 a0 B v.2 M T K U L))) u) := by
  refine z_xbody (cc := cX7_allow) (maxL := 6) (rty := (some .int)) (own := RX7) (lv := [(0, .ref ab), (1, .int x1), (2, .int x2), (3, .int x3), (4, .int x4)]) (by decide +kernel) rfl rfl (Nat.le_of_ble_eq_true rfl) rfl (fun p e s m args below meth c A C X => ?_)
  refine z_aload_n C dX7_allow_0 rfl 0 rfl ?_
  refine z_iload_n C dX7_allow_1 rfl 1 rfl ?_
  rcases zth_some hF with ⟨Er1, er1, hE⟩ | ⟨r1, er1, hF⟩
  · subst hE
    exact z_xcallV_T (n := 1) (As := [.int x1]) C X (c_X7_checkPolicy l hl D cI cJ cZ ab a5 a3 a6 a1 a0 B P M T K U L x1 (.inl Er1) er1) gX7_allow_X7_checkPolicy rfl (by decide +kernel) ⟨Nat.le_of_ble_eq_true rfl, Nat.le_of_ble_eq_true rfl⟩ ⟨Nat.le_refl 1, Nat.le_refl 6⟩ 0 rfl rfl [] [] rfl rfl rfl (Nat.le_of_ble_eq_true rfl) dX7_allow_2
  · refine z_xcallV_R (n := 1) (As := [.int x1]) (ws' := (zwX7 cI cJ cZ ab a5 a3 a6 a1 a0 B P M T K U L)) C X.1 (c_X7_checkPolicy l hl D cI cJ cZ ab a5 a3 a6 a1 a0 B P M T K U L x1 (.inr r1) er1) gX7_allow_X7_checkPolicy rfl (by decide +kernel) ⟨Nat.le_of_ble_eq_true rfl, Nat.le_of_ble_eq_true rfl⟩ ⟨Nat.zero_le _, Nat.zero_le _⟩ 0 rfl rfl [] [] rfl rfl rfl rfl (Nat.le_of_ble_eq_true rfl) dX7_allow_2 ?_
    refine z_iload_n C dX7_allow_5 rfl 2 rfl ?_
    obtain ⟨r2, er2, hF⟩ := zbd hF
    refine z_callS (n := 1) (As := [.int x2]) C (c_X4_isPattern l D cI cJ cZ x2 r2 er2) gX7_allow_X4_isPattern rfl rfl rfl (by decide +kernel) ⟨Nat.le_of_ble_eq_true rfl, Nat.le_of_ble_eq_true rfl⟩ ⟨Nat.zero_le _, Nat.zero_le _⟩ rfl rfl (Nat.le_of_ble_eq_true rfl) dX7_allow_6 ?_
    refine z_if_ne (tgt := 22) C dX7_allow_9 (by decide) (fun c3 => ?_) (fun c3 => ?_)
    · have hF := zelse hF c3
      refine z_iload C dX7_allow_22 4 rfl ?_
      refine z_iconst (v := 0) C dX7_allow_24 (by decide) ?_
      refine z_bipush (v := 15) C dX7_allow_25 (by decide) ?_
      rcases zth_some hF with ⟨Er4, er4, hE⟩ | ⟨r4, er4, hF⟩
      · subst hE
        exact z_xcallS_T (n := 3) (As := [.int x4, .int 0, .int 15]) C X (c_X7_checkRange l hl D cI cJ cZ x4 0 15 (.inl Er4) er4) gX7_allow_X7_checkRange rfl (by decide +kernel) ⟨Nat.le_of_ble_eq_true rfl, Nat.le_of_ble_eq_true rfl⟩ ⟨Nat.le_refl 1, Nat.le_refl 6⟩ rfl rfl (Nat.le_of_ble_eq_true rfl) dX7_allow_27
      · refine z_xcallS_R (n := 3) (As := [.int x4, .int 0, .int 15]) C X.1 (c_X7_checkRange l hl D cI cJ cZ x4 0 15 (.inr r4) er4) gX7_allow_X7_checkRange rfl (by decide +kernel) ⟨Nat.le_of_ble_eq_true rfl, Nat.le_of_ble_eq_true rfl⟩ ⟨Nat.zero_le _, Nat.zero_le _⟩ rfl rfl (Nat.le_of_ble_eq_true rfl) dX7_allow_27 ?_
        refine z_aload_n C dX7_allow_30 rfl 0 rfl ?_
        refine z_get (ref := "SecretBroker") (v := .ref (a5 0)) C hX7_allow_X7 0 rfl rfl 0 (by decide) kX7_allow_10 (fun _ h9 => h9) rfl dX7_allow_31 ?_
        refine z_iload_n C dX7_allow_34 rfl 1 rfl ?_
        refine z_iload_n C dX7_allow_35 rfl 2 rfl ?_
        refine z_iload_n C dX7_allow_36 rfl 3 rfl ?_
        obtain ⟨r5, er5, hF⟩ := zbd hF
        refine z_callV (n := 3) (As := [.int x1, .int x2, .int x3]) (ws' := (zwX7 cI cJ cZ ab a5 a3 a6 a1 a0 B P M T K U L)) C (c_X5_find l D cI cJ cZ a5 P x1 x2 x3 r5 er5) gX7_allow_X5_find rfl rfl rfl (by decide +kernel) ⟨Nat.le_of_ble_eq_true rfl, Nat.le_of_ble_eq_true rfl⟩ ⟨Nat.zero_le _, Nat.zero_le _⟩ 1 rfl rfl (zwB ab a5 a3 a6 a1 a0 B) (zwX3 cI cJ cZ a3 M ++ zwX6 cI cJ cZ a6 T ++ zwX1 cI cJ cZ a1 K ++ zwX0 cI cJ cZ a0 U L) rfl rfl rfl rfl (Nat.le_of_ble_eq_true rfl) dX7_allow_37 ?_
        refine z_istore (lv' := [(5, .int r5), (0, .ref ab), (1, .int x1), (2, .int x2), (3, .int x3), (4, .int x4)]) C dX7_allow_40 (by decide) rfl ?_
        refine z_iload C dX7_allow_42 0 rfl ?_
        refine z_iconst (v := (-1)) C dX7_allow_44 (by decide) ?_
        refine z_icmp_ne (tgt := 71) C dX7_allow_45 (by decide) (fun c6 => ?_) (fun c6 => ?_)
        · have hF := zelse hF c6
          refine z_aload_n C dX7_allow_71 rfl 1 rfl ?_
          refine z_get (ref := "SecretBroker") (v := .ref (a5 0)) C hX7_allow_X7 0 rfl rfl 0 (by decide) kX7_allow_10 (fun _ h9 => h9) rfl dX7_allow_72 ?_
          refine z_iload_n C dX7_allow_75 rfl 2 rfl ?_
          refine z_iload_n C dX7_allow_76 rfl 3 rfl ?_
          refine z_iload_n C dX7_allow_77 rfl 4 rfl ?_
          refine z_iload C dX7_allow_78 5 rfl ?_
          obtain ⟨r7, er7, hF⟩ := zbd hF
          refine z_callV (n := 4) (As := [.int x1, .int x2, .int x3, .int x4]) (ws' := (zwX7 cI cJ cZ ab a5 a3 a6 a1 a0 B r7 M T K U L)) C (c_X5_put l D cI cJ cZ a5 P x1 x2 x3 x4 r7 er7) gX7_allow_X5_put rfl rfl rfl (by decide +kernel) ⟨Nat.le_of_ble_eq_true rfl, Nat.le_of_ble_eq_true rfl⟩ ⟨Nat.zero_le _, Nat.zero_le _⟩ 1 rfl rfl (zwB ab a5 a3 a6 a1 a0 B) (zwX3 cI cJ cZ a3 M ++ zwX6 cI cJ cZ a6 T ++ zwX1 cI cJ cZ a1 K ++ zwX0 cI cJ cZ a0 U L) rfl rfl rfl rfl (Nat.le_of_ble_eq_true rfl) dX7_allow_80 ?_
          refine z_aload_n C dX7_allow_83 rfl 1 rfl ?_
          refine z_get (ref := "SecretBroker") (v := .ref (a5 0)) C hX7_allow_X7 0 rfl rfl 0 (by decide) kX7_allow_10 (fun _ h9 => h9) rfl dX7_allow_84 ?_
          refine z_iload_n C dX7_allow_87 rfl 2 rfl ?_
          obtain ⟨r8, er8, hF⟩ := zbd hF
          refine z_callV (n := 1) (As := [.int x1]) (ws' := (zwX7 cI cJ cZ ab a5 a3 a6 a1 a0 B r7 M T K U L)) C (c_X5_rulesOf l D cI cJ cZ a5 r7 x1 r8 er8) gX7_allow_X5_rulesOf rfl rfl rfl (by decide +kernel) ⟨Nat.le_of_ble_eq_true rfl, Nat.le_of_ble_eq_true rfl⟩ ⟨Nat.zero_le _, Nat.zero_le _⟩ 1 rfl rfl (zwB ab a5 a3 a6 a1 a0 B) (zwX3 cI cJ cZ a3 M ++ zwX6 cI cJ cZ a6 T ++ zwX1 cI cJ cZ a1 K ++ zwX0 cI cJ cZ a0 U L) rfl rfl rfl rfl (Nat.le_of_ble_eq_true rfl) dX7_allow_88 ?_
          have hu := Option.some.inj hF
          subst hu
          exact z_xiret C dX7_allow_91 rfl rfl
        · have hF := zif hF c6
          refine z_aload_n C dX7_allow_48 rfl 1 rfl ?_
          refine z_get (ref := "SecretBroker") (v := .ref (a5 0)) C hX7_allow_X7 0 rfl rfl 0 (by decide) kX7_allow_10 (fun _ h9 => h9) rfl dX7_allow_49 ?_
          refine z_iload_n C dX7_allow_52 rfl 2 rfl ?_
          obtain ⟨r9, er9, hF⟩ := zbd hF
          refine z_callV (n := 1) (As := [.int x1]) (ws' := (zwX7 cI cJ cZ ab a5 a3 a6 a1 a0 B P M T K U L)) C (c_X5_rulesOf l D cI cJ cZ a5 P x1 r9 er9) gX7_allow_X5_rulesOf rfl rfl rfl (by decide +kernel) ⟨Nat.le_of_ble_eq_true rfl, Nat.le_of_ble_eq_true rfl⟩ ⟨Nat.zero_le _, Nat.zero_le _⟩ 1 rfl rfl (zwB ab a5 a3 a6 a1 a0 B) (zwX3 cI cJ cZ a3 M ++ zwX6 cI cJ cZ a6 T ++ zwX1 cI cJ cZ a1 K ++ zwX0 cI cJ cZ a0 U L) rfl rfl rfl rfl (Nat.le_of_ble_eq_true rfl) dX7_allow_53 ?_
          refine z_bipush (v := 6) C dX7_allow_56 (by decide) ?_
          refine z_icmp_lt (tgt := 71) C dX7_allow_58 (by decide) (fun c10 => ?_) (fun c10 => ?_)
          · have hF := zif hF c10
            refine z_aload_n C dX7_allow_71 rfl 1 rfl ?_
            refine z_get (ref := "SecretBroker") (v := .ref (a5 0)) C hX7_allow_X7 0 rfl rfl 0 (by decide) kX7_allow_10 (fun _ h9 => h9) rfl dX7_allow_72 ?_
            refine z_iload_n C dX7_allow_75 rfl 2 rfl ?_
            refine z_iload_n C dX7_allow_76 rfl 3 rfl ?_
            refine z_iload_n C dX7_allow_77 rfl 4 rfl ?_
            refine z_iload C dX7_allow_78 5 rfl ?_
            obtain ⟨r11, er11, hF⟩ := zbd hF
            refine z_callV (n := 4) (As := [.int x1, .int x2, .int x3, .int x4]) (ws' := (zwX7 cI cJ cZ ab a5 a3 a6 a1 a0 B r11 M T K U L)) C (c_X5_put l D cI cJ cZ a5 P x1 x2 x3 x4 r11 er11) gX7_allow_X5_put rfl rfl rfl (by decide +kernel) ⟨Nat.le_of_ble_eq_true rfl, Nat.le_of_ble_eq_true rfl⟩ ⟨Nat.zero_le _, Nat.zero_le _⟩ 1 rfl rfl (zwB ab a5 a3 a6 a1 a0 B) (zwX3 cI cJ cZ a3 M ++ zwX6 cI cJ cZ a6 T ++ zwX1 cI cJ cZ a1 K ++ zwX0 cI cJ cZ a0 U L) rfl rfl rfl rfl (Nat.le_of_ble_eq_true rfl) dX7_allow_80 ?_
            refine z_aload_n C dX7_allow_83 rfl 1 rfl ?_
            refine z_get (ref := "SecretBroker") (v := .ref (a5 0)) C hX7_allow_X7 0 rfl rfl 0 (by decide) kX7_allow_10 (fun _ h9 => h9) rfl dX7_allow_84 ?_
            refine z_iload_n C dX7_allow_87 rfl 2 rfl ?_
            obtain ⟨r12, er12, hF⟩ := zbd hF
            refine z_callV (n := 1) (As := [.int x1]) (ws' := (zwX7 cI cJ cZ ab a5 a3 a6 a1 a0 B r11 M T K U L)) C (c_X5_rulesOf l D cI cJ cZ a5 r11 x1 r12 er12) gX7_allow_X5_rulesOf rfl rfl rfl (by decide +kernel) ⟨Nat.le_of_ble_eq_true rfl, Nat.le_of_ble_eq_true rfl⟩ ⟨Nat.zero_le _, Nat.zero_le _⟩ 1 rfl rfl (zwB ab a5 a3 a6 a1 a0 B) (zwX3 cI cJ cZ a3 M ++ zwX6 cI cJ cZ a6 T ++ zwX1 cI cJ cZ a1 K ++ zwX0 cI cJ cZ a0 U L) rfl rfl rfl rfl (Nat.le_of_ble_eq_true rfl) dX7_allow_88 ?_
            have hu := Option.some.inj hF
            subst hu
            exact z_xiret C dX7_allow_91 rfl rfl
          · have hF := zelse hF c10
            have hu := Option.some.inj hF
            subst hu
            exact z_throw (E := "java/lang/IllegalStateException") (text := "the policy has 6 rules") C X hl (by decide +kernel) kX7_allow_52 kX7_allow_95052 (by decide +kernel) (fun w h => List.mem_cons_of_mem _ (List.mem_append_left _ (List.mem_append_right _ h))) zbad_ISE X.1.2.2.1.1.1 zgood_ISE dX7_allow_61 dX7_allow_64 dX7_allow_65 dX7_allow_67 dX7_allow_70 (Nat.le_of_ble_eq_true rfl) (Nat.le_of_ble_eq_true rfl)
    · have hF := zif hF c3
      have hu := Option.some.inj hF
      subst hu
      exact z_throw (E := "java/lang/IllegalArgumentException") (text := "no pattern") C X hl (by decide +kernel) kX7_allow_72 kX7_allow_95072 (by decide +kernel) (fun w h => List.mem_cons_of_mem _ (List.mem_append_left _ (List.mem_append_left _ (List.mem_append_right _ h)))) zbad_IAE X.1.2.2.1.1.2.1 zgood_IAE dX7_allow_12 dX7_allow_15 dX7_allow_16 dX7_allow_18 dX7_allow_21 (Nat.le_of_ble_eq_true rfl) (Nat.le_of_ble_eq_true rfl)
theorem kX7_checkPath_72 : Cond.classLink RX7 72 "java/lang/IllegalArgumentException" ∈ wsX7_checkPath := by decide +kernel
theorem kX7_checkPath_95072 : Cond.initialized "java/lang/IllegalArgumentException" ∈ wsX7_checkPath := by decide +kernel
set_option maxHeartbeats 4000000 in
set_option maxRecDepth 100000 in
theorem c_X7_checkPath (l : Launch) (hl : l.stackTraces = false) (D : va_G) (cI cJ cZ : ClassId) (x1 : Int32) (u : String ⊕ Unit) (hF : f_X7_checkPath x1 = some u) : zO l yX7_checkPath wsX7_checkPath 6 92 D (zTy cI cJ cZ) [.int x1] [] (zo (fun (v : Unit) => (none, [])) u) := by
  refine z_xbody (cc := cX7_checkPath) (maxL := 1) (rty := none) (own := RX7) (lv := [(0, .int x1)]) (by decide +kernel) rfl rfl (Nat.le_of_ble_eq_true rfl) rfl (fun p e s m args below meth c A C X => ?_)
  refine z_iload_n C dX7_checkPath_0 rfl 0 rfl ?_
  obtain ⟨r1, er1, hF⟩ := zbd hF
  refine z_callS (n := 1) (As := [.int x1]) C (c_X4_isPath l D cI cJ cZ x1 r1 er1) gX7_checkPath_X4_isPath rfl rfl rfl (by decide +kernel) ⟨Nat.le_of_ble_eq_true rfl, Nat.le_of_ble_eq_true rfl⟩ ⟨Nat.zero_le _, Nat.zero_le _⟩ rfl rfl (Nat.le_of_ble_eq_true rfl) dX7_checkPath_1 ?_
  refine z_if_ne (tgt := 18) C dX7_checkPath_4 (by decide) (fun c2 => ?_) (fun c2 => ?_)
  · have hF := zelse hF c2
    have hu := Option.some.inj hF
    subst hu
    exact z_xvret C dX7_checkPath_18 rfl
  · have hF := zif hF c2
    have hu := Option.some.inj hF
    subst hu
    exact z_throwW (E := "java/lang/IllegalArgumentException") (text := "no path") C X hl (by decide +kernel) kX7_checkPath_72 kX7_checkPath_95072 (by decide +kernel) (fun w h => List.mem_cons_of_mem _ (List.mem_append_right _ h)) zbad_IAE X.1.2.2.1.1.2.1 zgood_IAE dX7_checkPath_7 dX7_checkPath_10 dX7_checkPath_11 dX7_checkPath_14 dX7_checkPath_17 (Nat.le_of_ble_eq_true rfl) (Nat.le_of_ble_eq_true rfl)
set_option maxHeartbeats 4000000 in
set_option maxRecDepth 100000 in
theorem c_X7_checkLease (l : Launch) (hl : l.stackTraces = false) (D : va_G) (cI cJ cZ : ClassId) (x1 : Int32) (x2 : Int32) (u : String ⊕ Unit) (hF : f_X7_checkLease x1 x2 = some u) : zO l yX7_checkLease wsX7_checkLease 7 114 D (zTy cI cJ cZ) [.int x1, .int x2] [] (zo (fun (v : Unit) => (none, [])) u) := by
  refine z_xbody (cc := cX7_checkLease) (maxL := 2) (rty := none) (own := RX7) (lv := [(0, .int x1), (1, .int x2)]) (by decide +kernel) rfl rfl (Nat.le_of_ble_eq_true rfl) rfl (fun p e s m args below meth c A C X => ?_)
  refine z_iload_n C dX7_checkLease_0 rfl 0 rfl ?_
  refine z_iconst (v := 1) C dX7_checkLease_1 (by decide) ?_
  refine z_sipush (v := 1000) C dX7_checkLease_2 (by decide) ?_
  rcases zth_some hF with ⟨Er1, er1, hE⟩ | ⟨r1, er1, hF⟩
  · subst hE
    exact z_xcallS_T (n := 3) (As := [.int x1, .int 1, .int 1000]) C X (c_X7_checkRange l hl D cI cJ cZ x1 1 1000 (.inl Er1) er1) gX7_checkLease_X7_checkRange rfl (by decide +kernel) ⟨Nat.le_of_ble_eq_true rfl, Nat.le_of_ble_eq_true rfl⟩ ⟨Nat.le_refl 1, Nat.le_refl 6⟩ rfl rfl (Nat.le_of_ble_eq_true rfl) dX7_checkLease_5
  · refine z_xcallS_R (n := 3) (As := [.int x1, .int 1, .int 1000]) C X.1 (c_X7_checkRange l hl D cI cJ cZ x1 1 1000 (.inr r1) er1) gX7_checkLease_X7_checkRange rfl (by decide +kernel) ⟨Nat.le_of_ble_eq_true rfl, Nat.le_of_ble_eq_true rfl⟩ ⟨Nat.zero_le _, Nat.zero_le _⟩ rfl rfl (Nat.le_of_ble_eq_true rfl) dX7_checkLease_5 ?_
    refine z_iload_n C dX7_checkLease_8 rfl 1 rfl ?_
    refine z_iload_n C dX7_checkLease_9 rfl 0 rfl ?_
    refine z_sipush (v := 5000) C dX7_checkLease_10 (by decide) ?_
    rcases zth_some hF with ⟨Er2, er2, hE⟩ | ⟨r2, er2, hF⟩
    · subst hE
      exact z_xcallS_T (n := 3) (As := [.int x2, .int x1, .int 5000]) C X (c_X7_checkRange l hl D cI cJ cZ x2 x1 5000 (.inl Er2) er2) gX7_checkLease_X7_checkRange rfl (by decide +kernel) ⟨Nat.le_of_ble_eq_true rfl, Nat.le_of_ble_eq_true rfl⟩ ⟨Nat.le_refl 1, Nat.le_refl 6⟩ rfl rfl (Nat.le_of_ble_eq_true rfl) dX7_checkLease_13
    · refine z_xcallS_R (n := 3) (As := [.int x2, .int x1, .int 5000]) C X.1 (c_X7_checkRange l hl D cI cJ cZ x2 x1 5000 (.inr r2) er2) gX7_checkLease_X7_checkRange rfl (by decide +kernel) ⟨Nat.le_of_ble_eq_true rfl, Nat.le_of_ble_eq_true rfl⟩ ⟨Nat.zero_le _, Nat.zero_le _⟩ rfl rfl (Nat.le_of_ble_eq_true rfl) dX7_checkLease_13 ?_
      have hu := Option.some.inj hF
      subst hu
      exact z_xvret C dX7_checkLease_16 rfl
theorem kX7_mount_19 : Cond.fieldLink RX7 19 "SecretBroker" "mountTable" "LSecretBroker$Mounts;" ∈ wsX7_mount := by decide +kernel
theorem kX7_mount_52 : Cond.classLink RX7 52 "java/lang/IllegalStateException" ∈ wsX7_mount := by decide +kernel
theorem kX7_mount_95052 : Cond.initialized "java/lang/IllegalStateException" ∈ wsX7_mount := by decide +kernel
theorem hX7_mount_X7 : ∀ w ∈ wsX70, w ∈ wsX7_mount := by decide +kernel
set_option maxHeartbeats 4000000 in
set_option maxRecDepth 100000 in
theorem c_X7_mount (l : Launch) (hl : l.stackTraces = false) (D : va_G) (cI cJ cZ : ClassId) (ab : Nat) (a5 : Nat → Nat) (a3 : Nat → Nat) (a6 : Nat → Nat) (a1 : Nat → Nat) (a0 : Nat → Nat) (B : SS) (P : SS) (M : SS) (T : SS) (K : SS) (U : SS) (L : SL) (x1 : Int32) (x2 : Int32) (x3 : Int32) (u : String ⊕ (Int32 × SS)) (hF : f_X7_mount M x1 x2 x3 = some u) : zO l yX7_mount wsX7_mount 8 135 D (zTy cI cJ cZ) [.ref ab, .int x1, .int x2, .int x3] (zwX7 cI cJ cZ ab a5 a3 a6 a1 a0 B P M T K U L) (zo (fun (v : (Int32 × SS)) => ((some (.int v.1)), (zwX7 cI cJ cZ ab a5 a3 a6 a1 a0 B P v.2 T K U L))) u) := by
  refine z_xbody (cc := cX7_mount) (maxL := 4) (rty := (some .int)) (own := RX7) (lv := [(0, .ref ab), (1, .int x1), (2, .int x2), (3, .int x3)]) (by decide +kernel) rfl rfl (Nat.le_of_ble_eq_true rfl) rfl (fun p e s m args below meth c A C X => ?_)
  refine z_iload_n C dX7_mount_0 rfl 1 rfl ?_
  rcases zth_some hF with ⟨Er1, er1, hE⟩ | ⟨r1, er1, hF⟩
  · subst hE
    exact z_xcallS_T (n := 1) (As := [.int x1]) C X (c_X7_checkPath l hl D cI cJ cZ x1 (.inl Er1) er1) gX7_mount_X7_checkPath rfl (by decide +kernel) ⟨Nat.le_of_ble_eq_true rfl, Nat.le_of_ble_eq_true rfl⟩ ⟨Nat.le_refl 1, Nat.le_refl 6⟩ rfl rfl (Nat.le_of_ble_eq_true rfl) dX7_mount_1
  · refine z_xcallS_R (n := 1) (As := [.int x1]) C X.1 (c_X7_checkPath l hl D cI cJ cZ x1 (.inr r1) er1) gX7_mount_X7_checkPath rfl (by decide +kernel) ⟨Nat.le_of_ble_eq_true rfl, Nat.le_of_ble_eq_true rfl⟩ ⟨Nat.zero_le _, Nat.zero_le _⟩ rfl rfl (Nat.le_of_ble_eq_true rfl) dX7_mount_1 ?_
    refine z_iload_n C dX7_mount_4 rfl 2 rfl ?_
    refine z_iload_n C dX7_mount_5 rfl 3 rfl ?_
    rcases zth_some hF with ⟨Er2, er2, hE⟩ | ⟨r2, er2, hF⟩
    · subst hE
      exact z_xcallS_T (n := 2) (As := [.int x2, .int x3]) C X (c_X7_checkLease l hl D cI cJ cZ x2 x3 (.inl Er2) er2) gX7_mount_X7_checkLease rfl (by decide +kernel) ⟨Nat.le_of_ble_eq_true rfl, Nat.le_of_ble_eq_true rfl⟩ ⟨Nat.le_refl 1, Nat.le_refl 6⟩ rfl rfl (Nat.le_of_ble_eq_true rfl) dX7_mount_6
    · refine z_xcallS_R (n := 2) (As := [.int x2, .int x3]) C X.1 (c_X7_checkLease l hl D cI cJ cZ x2 x3 (.inr r2) er2) gX7_mount_X7_checkLease rfl (by decide +kernel) ⟨Nat.le_of_ble_eq_true rfl, Nat.le_of_ble_eq_true rfl⟩ ⟨Nat.zero_le _, Nat.zero_le _⟩ rfl rfl (Nat.le_of_ble_eq_true rfl) dX7_mount_6 ?_
      refine z_aload_n C dX7_mount_9 rfl 0 rfl ?_
      refine z_get (ref := "SecretBroker") (v := .ref (a3 0)) C hX7_mount_X7 0 rfl rfl 1 (by decide) kX7_mount_19 (fun _ h9 => h9) rfl dX7_mount_10 ?_
      refine z_iload_n C dX7_mount_13 rfl 1 rfl ?_
      obtain ⟨r3, er3, hF⟩ := zbd hF
      refine z_callV (n := 1) (As := [.int x1]) (ws' := (zwX7 cI cJ cZ ab a5 a3 a6 a1 a0 B P M T K U L)) C (c_X3_find l D cI cJ cZ a3 M x1 r3 er3) gX7_mount_X3_find rfl rfl rfl (by decide +kernel) ⟨Nat.le_of_ble_eq_true rfl, Nat.le_of_ble_eq_true rfl⟩ ⟨Nat.zero_le _, Nat.zero_le _⟩ 6 rfl rfl (zwB ab a5 a3 a6 a1 a0 B ++ zwX5 cI cJ cZ a5 P) (zwX6 cI cJ cZ a6 T ++ zwX1 cI cJ cZ a1 K ++ zwX0 cI cJ cZ a0 U L) rfl rfl rfl rfl (Nat.le_of_ble_eq_true rfl) dX7_mount_14 ?_
      refine z_iconst (v := (-1)) C dX7_mount_17 (by decide) ?_
      refine z_icmp_ne (tgt := 43) C dX7_mount_18 (by decide) (fun c4 => ?_) (fun c4 => ?_)
      · have hF := zelse hF c4
        refine z_aload_n C dX7_mount_43 rfl 0 rfl ?_
        refine z_get (ref := "SecretBroker") (v := .ref (a3 0)) C hX7_mount_X7 0 rfl rfl 1 (by decide) kX7_mount_19 (fun _ h9 => h9) rfl dX7_mount_44 ?_
        refine z_iload_n C dX7_mount_47 rfl 1 rfl ?_
        refine z_iload_n C dX7_mount_48 rfl 2 rfl ?_
        refine z_iload_n C dX7_mount_49 rfl 3 rfl ?_
        obtain ⟨r5, er5, hF⟩ := zbd hF
        refine z_callV (n := 3) (As := [.int x1, .int x2, .int x3]) (ws' := (zwX7 cI cJ cZ ab a5 a3 a6 a1 a0 B P r5 T K U L)) C (c_X3_put l D cI cJ cZ a3 M x1 x2 x3 r5 er5) gX7_mount_X3_put rfl rfl rfl (by decide +kernel) ⟨Nat.le_of_ble_eq_true rfl, Nat.le_of_ble_eq_true rfl⟩ ⟨Nat.zero_le _, Nat.zero_le _⟩ 6 rfl rfl (zwB ab a5 a3 a6 a1 a0 B ++ zwX5 cI cJ cZ a5 P) (zwX6 cI cJ cZ a6 T ++ zwX1 cI cJ cZ a1 K ++ zwX0 cI cJ cZ a0 U L) rfl rfl rfl rfl (Nat.le_of_ble_eq_true rfl) dX7_mount_50 ?_
        refine z_aload_n C dX7_mount_53 rfl 0 rfl ?_
        refine z_get (ref := "SecretBroker") (v := .ref (a3 0)) C hX7_mount_X7 0 rfl rfl 1 (by decide) kX7_mount_19 (fun _ h9 => h9) rfl dX7_mount_54 ?_
        obtain ⟨r6, er6, hF⟩ := zbd hF
        refine z_callV (n := 0) (As := []) (ws' := (zwX7 cI cJ cZ ab a5 a3 a6 a1 a0 B P r5 T K U L)) C (c_X3_count l D cI cJ cZ a3 r5 r6 er6) gX7_mount_X3_count rfl rfl rfl (by decide +kernel) ⟨Nat.le_of_ble_eq_true rfl, Nat.le_of_ble_eq_true rfl⟩ ⟨Nat.zero_le _, Nat.zero_le _⟩ 6 rfl rfl (zwB ab a5 a3 a6 a1 a0 B ++ zwX5 cI cJ cZ a5 P) (zwX6 cI cJ cZ a6 T ++ zwX1 cI cJ cZ a1 K ++ zwX0 cI cJ cZ a0 U L) rfl rfl rfl rfl (Nat.le_of_ble_eq_true rfl) dX7_mount_57 ?_
        have hu := Option.some.inj hF
        subst hu
        exact z_xiret C dX7_mount_60 rfl rfl
      · have hF := zif hF c4
        refine z_aload_n C dX7_mount_21 rfl 0 rfl ?_
        refine z_get (ref := "SecretBroker") (v := .ref (a3 0)) C hX7_mount_X7 0 rfl rfl 1 (by decide) kX7_mount_19 (fun _ h9 => h9) rfl dX7_mount_22 ?_
        obtain ⟨r7, er7, hF⟩ := zbd hF
        refine z_callV (n := 0) (As := []) (ws' := (zwX7 cI cJ cZ ab a5 a3 a6 a1 a0 B P M T K U L)) C (c_X3_count l D cI cJ cZ a3 M r7 er7) gX7_mount_X3_count rfl rfl rfl (by decide +kernel) ⟨Nat.le_of_ble_eq_true rfl, Nat.le_of_ble_eq_true rfl⟩ ⟨Nat.zero_le _, Nat.zero_le _⟩ 6 rfl rfl (zwB ab a5 a3 a6 a1 a0 B ++ zwX5 cI cJ cZ a5 P) (zwX6 cI cJ cZ a6 T ++ zwX1 cI cJ cZ a1 K ++ zwX0 cI cJ cZ a0 U L) rfl rfl rfl rfl (Nat.le_of_ble_eq_true rfl) dX7_mount_25 ?_
        refine z_bipush (v := 6) C dX7_mount_28 (by decide) ?_
        refine z_icmp_lt (tgt := 43) C dX7_mount_30 (by decide) (fun c8 => ?_) (fun c8 => ?_)
        · have hF := zif hF c8
          refine z_aload_n C dX7_mount_43 rfl 0 rfl ?_
          refine z_get (ref := "SecretBroker") (v := .ref (a3 0)) C hX7_mount_X7 0 rfl rfl 1 (by decide) kX7_mount_19 (fun _ h9 => h9) rfl dX7_mount_44 ?_
          refine z_iload_n C dX7_mount_47 rfl 1 rfl ?_
          refine z_iload_n C dX7_mount_48 rfl 2 rfl ?_
          refine z_iload_n C dX7_mount_49 rfl 3 rfl ?_
          obtain ⟨r9, er9, hF⟩ := zbd hF
          refine z_callV (n := 3) (As := [.int x1, .int x2, .int x3]) (ws' := (zwX7 cI cJ cZ ab a5 a3 a6 a1 a0 B P r9 T K U L)) C (c_X3_put l D cI cJ cZ a3 M x1 x2 x3 r9 er9) gX7_mount_X3_put rfl rfl rfl (by decide +kernel) ⟨Nat.le_of_ble_eq_true rfl, Nat.le_of_ble_eq_true rfl⟩ ⟨Nat.zero_le _, Nat.zero_le _⟩ 6 rfl rfl (zwB ab a5 a3 a6 a1 a0 B ++ zwX5 cI cJ cZ a5 P) (zwX6 cI cJ cZ a6 T ++ zwX1 cI cJ cZ a1 K ++ zwX0 cI cJ cZ a0 U L) rfl rfl rfl rfl (Nat.le_of_ble_eq_true rfl) dX7_mount_50 ?_
          refine z_aload_n C dX7_mount_53 rfl 0 rfl ?_
          refine z_get (ref := "SecretBroker") (v := .ref (a3 0)) C hX7_mount_X7 0 rfl rfl 1 (by decide) kX7_mount_19 (fun _ h9 => h9) rfl dX7_mount_54 ?_
          obtain ⟨r10, er10, hF⟩ := zbd hF
          refine z_callV (n := 0) (As := []) (ws' := (zwX7 cI cJ cZ ab a5 a3 a6 a1 a0 B P r9 T K U L)) C (c_X3_count l D cI cJ cZ a3 r9 r10 er10) gX7_mount_X3_count rfl rfl rfl (by decide +kernel) ⟨Nat.le_of_ble_eq_true rfl, Nat.le_of_ble_eq_true rfl⟩ ⟨Nat.zero_le _, Nat.zero_le _⟩ 6 rfl rfl (zwB ab a5 a3 a6 a1 a0 B ++ zwX5 cI cJ cZ a5 P) (zwX6 cI cJ cZ a6 T ++ zwX1 cI cJ cZ a1 K ++ zwX0 cI cJ cZ a0 U L) rfl rfl rfl rfl (Nat.le_of_ble_eq_true rfl) dX7_mount_57 ?_
          have hu := Option.some.inj hF
          subst hu
          exact z_xiret C dX7_mount_60 rfl rfl
        · have hF := zelse hF c8
          have hu := Option.some.inj hF
          subst hu
          exact z_throw (E := "java/lang/IllegalStateException") (text := "there are 6 mounts") C X hl (by decide +kernel) kX7_mount_52 kX7_mount_95052 (by decide +kernel) (fun w h => List.mem_cons_of_mem _ (List.mem_append_left _ (List.mem_append_right _ h))) zbad_ISE X.1.2.2.1.1.1 zgood_ISE dX7_mount_33 dX7_mount_36 dX7_mount_37 dX7_mount_39 dX7_mount_42 (Nat.le_of_ble_eq_true rfl) (Nat.le_of_ble_eq_true rfl)
theorem kX7_checkToken_26 : Cond.fieldLink RX7 26 "SecretBroker" "tokenTable" "LSecretBroker$Tokens;" ∈ wsX7_checkToken := by decide +kernel
theorem kX7_checkToken_243 : Cond.classLink RX7 243 "java/lang/IndexOutOfBoundsException" ∈ wsX7_checkToken := by decide +kernel
theorem kX7_checkToken_95243 : Cond.initialized "java/lang/IndexOutOfBoundsException" ∈ wsX7_checkToken := by decide +kernel
theorem hX7_checkToken_X7 : ∀ w ∈ wsX70, w ∈ wsX7_checkToken := by decide +kernel
set_option maxHeartbeats 4000000 in
set_option maxRecDepth 100000 in
theorem c_X7_checkToken (l : Launch) (hl : l.stackTraces = false) (D : va_G) (cI cJ cZ : ClassId) (ab : Nat) (a5 : Nat → Nat) (a3 : Nat → Nat) (a6 : Nat → Nat) (a1 : Nat → Nat) (a0 : Nat → Nat) (B : SS) (P : SS) (M : SS) (T : SS) (K : SS) (U : SS) (L : SL) (x1 : Int32) (u : String ⊕ Unit) (hF : f_X7_checkToken T x1 = some u) : zO l yX7_checkToken wsX7_checkToken 6 92 D (zTy cI cJ cZ) [.ref ab, .int x1] (zwX7 cI cJ cZ ab a5 a3 a6 a1 a0 B P M T K U L) (zo (fun (v : Unit) => (none, (zwX7 cI cJ cZ ab a5 a3 a6 a1 a0 B P M T K U L))) u) := by
  refine z_xbody (cc := cX7_checkToken) (maxL := 2) (rty := none) (own := RX7) (lv := [(0, .ref ab), (1, .int x1)]) (by decide +kernel) rfl rfl (Nat.le_of_ble_eq_true rfl) rfl (fun p e s m args below meth c A C X => ?_)
  refine z_aload_n C dX7_checkToken_0 rfl 0 rfl ?_
  refine z_get (ref := "SecretBroker") (v := .ref (a6 0)) C hX7_checkToken_X7 0 rfl rfl 2 (by decide) kX7_checkToken_26 (fun _ h9 => h9) rfl dX7_checkToken_1 ?_
  refine z_iload_n C dX7_checkToken_4 rfl 1 rfl ?_
  obtain ⟨r1, er1, hF⟩ := zbd hF
  refine z_callU (n := 1) (As := [.int x1]) (ws' := (zwX7 cI cJ cZ ab a5 a3 a6 a1 a0 B P M T K U L)) C (c_X2_has_6 l D cI cJ cZ a6 T x1 r1 er1) gX7_checkToken_X2_has_u248X6 rfl rfl rfl rfl (by decide +kernel) ⟨Nat.le_of_ble_eq_true rfl, Nat.le_of_ble_eq_true rfl⟩ ⟨Nat.zero_le _, Nat.zero_le _⟩ 10 rfl rfl (zwB ab a5 a3 a6 a1 a0 B ++ zwX5 cI cJ cZ a5 P ++ zwX3 cI cJ cZ a3 M) (zwX1 cI cJ cZ a1 K ++ zwX0 cI cJ cZ a0 U L) rfl rfl rfl rfl (Nat.le_of_ble_eq_true rfl) dX7_checkToken_5 ?_
  refine z_if_ne (tgt := 21) C dX7_checkToken_8 (by decide) (fun c2 => ?_) (fun c2 => ?_)
  · have hF := zelse hF c2
    have hu := Option.some.inj hF
    subst hu
    exact z_xvret C dX7_checkToken_21 rfl
  · have hF := zif hF c2
    have hu := Option.some.inj hF
    subst hu
    exact z_throw (E := "java/lang/IndexOutOfBoundsException") (text := "there never was such a token") C X hl (by decide +kernel) kX7_checkToken_243 kX7_checkToken_95243 (by decide +kernel) (fun w h => List.mem_cons_of_mem _ (List.mem_append_right _ h)) zbad_IOE X.1.2.2.1.1.2.2 zgood_IOE dX7_checkToken_11 dX7_checkToken_14 dX7_checkToken_15 dX7_checkToken_17 dX7_checkToken_20 (Nat.le_of_ble_eq_true rfl) (Nat.le_of_ble_eq_true rfl)
theorem kX7_mayHand_10 : Cond.fieldLink RX7 10 "SecretBroker" "policyTable" "LSecretBroker$Policies;" ∈ wsX7_mayHand := by decide +kernel
theorem kX7_mayHand_26 : Cond.fieldLink RX7 26 "SecretBroker" "tokenTable" "LSecretBroker$Tokens;" ∈ wsX7_mayHand := by decide +kernel
theorem hX7_mayHand_X7 : ∀ w ∈ wsX70, w ∈ wsX7_mayHand := by decide +kernel
set_option maxHeartbeats 4000000 in
set_option maxRecDepth 100000 in
theorem c_X7_mayHand (l : Launch) (D : va_G) (cI cJ cZ : ClassId) (ab : Nat) (a5 : Nat → Nat) (a3 : Nat → Nat) (a6 : Nat → Nat) (a1 : Nat → Nat) (a0 : Nat → Nat) (B : SS) (P : SS) (M : SS) (T : SS) (K : SS) (U : SS) (L : SL) (x1 : Int32) (x2 : Int32) (u : Int32) (hF : f_X7_mayHand P T x1 x2 = some u) : zM l yX7_mayHand wsX7_mayHand ({ frames := 2, cells := 0, slots := 0, locals := 42 }) D (zTy cI cJ cZ) [.ref ab, .int x1, .int x2] (zwX7 cI cJ cZ ab a5 a3 a6 a1 a0 B P M T K U L) (some (.int u)) (zwX7 cI cJ cZ ab a5 a3 a6 a1 a0 B P M T K U L) := by
  refine z_body (cc := cX7_mayHand) (maxL := 3) (rty := (some .boolean)) (own := RX7) (lv := [(0, .ref ab), (1, .int x1), (2, .int x2)]) (by decide +kernel) rfl rfl (Nat.le_of_ble_eq_true rfl) rfl (fun p e s m args below meth c A C => ?_)
  refine z_aload_n C dX7_mayHand_0 rfl 0 rfl ?_
  refine z_get (ref := "SecretBroker") (v := .ref (a5 0)) C hX7_mayHand_X7 0 rfl rfl 0 (by decide) kX7_mayHand_10 (fun _ h9 => h9) rfl dX7_mayHand_1 ?_
  refine z_iload_n C dX7_mayHand_4 rfl 2 rfl ?_
  obtain ⟨r1, er1, hF⟩ := zbd hF
  refine z_callV (n := 1) (As := [.int x2]) (ws' := (zwX7 cI cJ cZ ab a5 a3 a6 a1 a0 B P M T K U L)) C (c_X5_hasAll l D cI cJ cZ a5 P x2 r1 er1) gX7_mayHand_X5_hasAll rfl rfl rfl (by decide +kernel) ⟨Nat.le_of_ble_eq_true rfl, Nat.le_of_ble_eq_true rfl⟩ ⟨Nat.zero_le _, Nat.zero_le _⟩ 1 rfl rfl (zwB ab a5 a3 a6 a1 a0 B) (zwX3 cI cJ cZ a3 M ++ zwX6 cI cJ cZ a6 T ++ zwX1 cI cJ cZ a1 K ++ zwX0 cI cJ cZ a0 U L) rfl rfl rfl rfl (Nat.le_of_ble_eq_true rfl) dX7_mayHand_5 ?_
  refine z_if_ne (tgt := 13) C dX7_mayHand_8 (by decide) (fun c2 => ?_) (fun c2 => ?_)
  · have hF := zelse hF c2
    refine z_iload_n C dX7_mayHand_13 rfl 1 rfl ?_
    refine z_if_eq (tgt := 32) C dX7_mayHand_14 (by decide) (fun c3 => ?_) (fun c3 => ?_)
    · have hF := zif hF c3
      refine z_iconst (v := 1) C dX7_mayHand_32 (by decide) ?_
      refine z_goto (tgt := 37) C dX7_mayHand_33 (by decide) ?_
      have hu := Option.some.inj hF
      subst hu
      exact z_iret C dX7_mayHand_37 rfl z_b1
    · have hF := zelse hF c3
      refine z_iload_n C dX7_mayHand_17 rfl 2 rfl ?_
      refine z_aload_n C dX7_mayHand_18 rfl 0 rfl ?_
      refine z_get (ref := "SecretBroker") (v := .ref (a6 0)) C hX7_mayHand_X7 0 rfl rfl 2 (by decide) kX7_mayHand_26 (fun _ h9 => h9) rfl dX7_mayHand_19 ?_
      refine z_iload_n C dX7_mayHand_22 rfl 1 rfl ?_
      obtain ⟨r4, er4, hF⟩ := zbd hF
      refine z_callV (n := 1) (As := [.int x1]) (ws' := (zwX7 cI cJ cZ ab a5 a3 a6 a1 a0 B P M T K U L)) C (c_X6_policiesAt l D cI cJ cZ a6 T x1 r4 er4) gX7_mayHand_X6_policiesAt rfl rfl rfl (by decide +kernel) ⟨Nat.le_of_ble_eq_true rfl, Nat.le_of_ble_eq_true rfl⟩ ⟨Nat.zero_le _, Nat.zero_le _⟩ 10 rfl rfl (zwB ab a5 a3 a6 a1 a0 B ++ zwX5 cI cJ cZ a5 P ++ zwX3 cI cJ cZ a3 M) (zwX1 cI cJ cZ a1 K ++ zwX0 cI cJ cZ a0 U L) rfl rfl rfl rfl (Nat.le_of_ble_eq_true rfl) dX7_mayHand_23 ?_
      refine z_iconst (v := (-1)) C dX7_mayHand_26 (by decide) ?_
      refine z_ixor C dX7_mayHand_27 ?_
      refine z_iand C dX7_mayHand_28 ?_
      refine z_if_ne (tgt := 36) C dX7_mayHand_29 (by decide) (fun c5 => ?_) (fun c5 => ?_)
      · have hF := zelse hF c5
        refine z_iconst (v := 0) C dX7_mayHand_36 (by decide) ?_
        have hu := Option.some.inj hF
        subst hu
        exact z_iret C dX7_mayHand_37 rfl z_b0
      · have hF := zif hF c5
        refine z_iconst (v := 1) C dX7_mayHand_32 (by decide) ?_
        refine z_goto (tgt := 37) C dX7_mayHand_33 (by decide) ?_
        have hu := Option.some.inj hF
        subst hu
        exact z_iret C dX7_mayHand_37 rfl z_b1
  · have hF := zif hF c2
    refine z_iconst (v := 0) C dX7_mayHand_11 (by decide) ?_
    have hu := Option.some.inj hF
    subst hu
    exact z_iret C dX7_mayHand_12 rfl z_b0
theorem kX7_checkAliveToken_26 : Cond.fieldLink RX7 26 "SecretBroker" "tokenTable" "LSecretBroker$Tokens;" ∈ wsX7_checkAliveToken := by decide +kernel
theorem kX7_checkAliveToken_52 : Cond.classLink RX7 52 "java/lang/IllegalStateException" ∈ wsX7_checkAliveToken := by decide +kernel
theorem kX7_checkAliveToken_95052 : Cond.initialized "java/lang/IllegalStateException" ∈ wsX7_checkAliveToken := by decide +kernel
theorem hX7_checkAliveToken_X7 : ∀ w ∈ wsX70, w ∈ wsX7_checkAliveToken := by decide +kernel
set_option maxHeartbeats 4000000 in
set_option maxRecDepth 100000 in
theorem c_X7_checkAliveToken (l : Launch) (hl : l.stackTraces = false) (D : va_G) (cI cJ cZ : ClassId) (ab : Nat) (a5 : Nat → Nat) (a3 : Nat → Nat) (a6 : Nat → Nat) (a1 : Nat → Nat) (a0 : Nat → Nat) (B : SS) (P : SS) (M : SS) (T : SS) (K : SS) (U : SS) (L : SL) (x1 : Int32) (u : String ⊕ Unit) (hF : f_X7_checkAliveToken T x1 = some u) : zO l yX7_checkAliveToken wsX7_checkAliveToken 6 92 D (zTy cI cJ cZ) [.ref ab, .int x1] (zwX7 cI cJ cZ ab a5 a3 a6 a1 a0 B P M T K U L) (zo (fun (v : Unit) => (none, (zwX7 cI cJ cZ ab a5 a3 a6 a1 a0 B P M T K U L))) u) := by
  refine z_xbody (cc := cX7_checkAliveToken) (maxL := 2) (rty := none) (own := RX7) (lv := [(0, .ref ab), (1, .int x1)]) (by decide +kernel) rfl rfl (Nat.le_of_ble_eq_true rfl) rfl (fun p e s m args below meth c A C X => ?_)
  refine z_aload_n C dX7_checkAliveToken_0 rfl 0 rfl ?_
  refine z_get (ref := "SecretBroker") (v := .ref (a6 0)) C hX7_checkAliveToken_X7 0 rfl rfl 2 (by decide) kX7_checkAliveToken_26 (fun _ h9 => h9) rfl dX7_checkAliveToken_1 ?_
  refine z_iload_n C dX7_checkAliveToken_4 rfl 1 rfl ?_
  obtain ⟨r1, er1, hF⟩ := zbd hF
  refine z_callU (n := 1) (As := [.int x1]) (ws' := (zwX7 cI cJ cZ ab a5 a3 a6 a1 a0 B P M T K U L)) C (c_X2_isOn_6 l D cI cJ cZ a6 T x1 r1 er1) gX7_checkAliveToken_X2_isOn_u158X6 rfl rfl rfl rfl (by decide +kernel) ⟨Nat.le_of_ble_eq_true rfl, Nat.le_of_ble_eq_true rfl⟩ ⟨Nat.zero_le _, Nat.zero_le _⟩ 10 rfl rfl (zwB ab a5 a3 a6 a1 a0 B ++ zwX5 cI cJ cZ a5 P ++ zwX3 cI cJ cZ a3 M) (zwX1 cI cJ cZ a1 K ++ zwX0 cI cJ cZ a0 U L) rfl rfl rfl rfl (Nat.le_of_ble_eq_true rfl) dX7_checkAliveToken_5 ?_
  refine z_if_ne (tgt := 22) C dX7_checkAliveToken_8 (by decide) (fun c2 => ?_) (fun c2 => ?_)
  · have hF := zelse hF c2
    have hu := Option.some.inj hF
    subst hu
    exact z_xvret C dX7_checkAliveToken_22 rfl
  · have hF := zif hF c2
    have hu := Option.some.inj hF
    subst hu
    exact z_throwW (E := "java/lang/IllegalStateException") (text := "the token is not alive") C X hl (by decide +kernel) kX7_checkAliveToken_52 kX7_checkAliveToken_95052 (by decide +kernel) (fun w h => List.mem_cons_of_mem _ (List.mem_append_right _ h)) zbad_ISE X.1.2.2.1.1.1 zgood_ISE dX7_checkAliveToken_11 dX7_checkAliveToken_14 dX7_checkAliveToken_15 dX7_checkAliveToken_18 dX7_checkAliveToken_21 (Nat.le_of_ble_eq_true rfl) (Nat.le_of_ble_eq_true rfl)
theorem kX7_create_26 : Cond.fieldLink RX7 26 "SecretBroker" "tokenTable" "LSecretBroker$Tokens;" ∈ wsX7_create := by decide +kernel
theorem kX7_create_52 : Cond.classLink RX7 52 "java/lang/IllegalStateException" ∈ wsX7_create := by decide +kernel
theorem kX7_create_95052 : Cond.initialized "java/lang/IllegalStateException" ∈ wsX7_create := by decide +kernel
theorem kX7_create_44 : Cond.fieldLink RX7 44 "SecretBroker" "now" "I" ∈ wsX7_create := by decide +kernel
theorem kX7_create_40 : Cond.fieldLink RX7 40 "SecretBroker" "audit" "LSecretBroker$Audit;" ∈ wsX7_create := by decide +kernel
theorem kX7_create_72 : Cond.classLink RX7 72 "java/lang/IllegalArgumentException" ∈ wsX7_create := by decide +kernel
theorem kX7_create_95072 : Cond.initialized "java/lang/IllegalArgumentException" ∈ wsX7_create := by decide +kernel
theorem hX7_create_X7 : ∀ w ∈ wsX70, w ∈ wsX7_create := by decide +kernel
set_option maxHeartbeats 4000000 in
set_option maxRecDepth 100000 in
theorem c_X7_create (l : Launch) (hl : l.stackTraces = false) (D : va_G) (cI cJ cZ : ClassId) (ab : Nat) (a5 : Nat → Nat) (a3 : Nat → Nat) (a6 : Nat → Nat) (a1 : Nat → Nat) (a0 : Nat → Nat) (B : SS) (P : SS) (M : SS) (T : SS) (K : SS) (U : SS) (L : SL) (x1 : Int32) (x2 : Int32) (x3 : Int32) (x4 : Int32) (x5 : Int32) (u : String ⊕ (Int32 × SS × SS × SL)) (hF : f_X7_create B P T U L x1 x2 x3 x4 x5 = some u) : zO l yX7_create wsX7_create 8 135 D (zTy cI cJ cZ) [.ref ab, .int x1, .int x2, .int x3, .int x4, .int x5] (zwX7 cI cJ cZ ab a5 a3 a6 a1 a0 B P M T K U L) (zo (fun (v : (Int32 × SS × SS × SL)) => ((some (.int v.1)), (zwX7 cI cJ cZ ab a5 a3 a6 a1 a0 B P M v.2.1 K v.2.2.1 v.2.2.2))) u) := by
  refine z_xbody (cc := cX7_create) (maxL := 7) (rty := (some .int)) (own := RX7) (lv := [(0, .ref ab), (1, .int x1), (2, .int x2), (3, .int x3), (4, .int x4), (5, .int x5)]) (by decide +kernel) rfl rfl (Nat.le_of_ble_eq_true rfl) rfl (fun p e s m args below meth c A C X => ?_)
  refine z_aload_n C dX7_create_0 rfl 0 rfl ?_
  refine z_iload_n C dX7_create_1 rfl 1 rfl ?_
  rcases zth_some hF with ⟨Er1, er1, hE⟩ | ⟨r1, er1, hF⟩
  · subst hE
    exact z_xcallV_T (n := 1) (As := [.int x1]) C X (c_X7_checkToken l hl D cI cJ cZ ab a5 a3 a6 a1 a0 B P M T K U L x1 (.inl Er1) er1) gX7_create_X7_checkToken rfl (by decide +kernel) ⟨Nat.le_of_ble_eq_true rfl, Nat.le_of_ble_eq_true rfl⟩ ⟨Nat.le_refl 1, Nat.le_refl 6⟩ 0 rfl rfl [] [] rfl rfl rfl (Nat.le_of_ble_eq_true rfl) dX7_create_2
  · refine z_xcallV_R (n := 1) (As := [.int x1]) (ws' := (zwX7 cI cJ cZ ab a5 a3 a6 a1 a0 B P M T K U L)) C X.1 (c_X7_checkToken l hl D cI cJ cZ ab a5 a3 a6 a1 a0 B P M T K U L x1 (.inr r1) er1) gX7_create_X7_checkToken rfl (by decide +kernel) ⟨Nat.le_of_ble_eq_true rfl, Nat.le_of_ble_eq_true rfl⟩ ⟨Nat.zero_le _, Nat.zero_le _⟩ 0 rfl rfl [] [] rfl rfl rfl rfl (Nat.le_of_ble_eq_true rfl) dX7_create_2 ?_
    refine z_aload_n C dX7_create_5 rfl 0 rfl ?_
    refine z_iload_n C dX7_create_6 rfl 1 rfl ?_
    refine z_iload_n C dX7_create_7 rfl 2 rfl ?_
    obtain ⟨r2, er2, hF⟩ := zbd hF
    refine z_callV (n := 2) (As := [.int x1, .int x2]) (ws' := (zwX7 cI cJ cZ ab a5 a3 a6 a1 a0 B P M T K U L)) C (c_X7_mayHand l D cI cJ cZ ab a5 a3 a6 a1 a0 B P M T K U L x1 x2 r2 er2) gX7_create_X7_mayHand rfl rfl rfl (by decide +kernel) ⟨Nat.le_of_ble_eq_true rfl, Nat.le_of_ble_eq_true rfl⟩ ⟨Nat.zero_le _, Nat.zero_le _⟩ 0 rfl rfl [] [] rfl rfl rfl rfl (Nat.le_of_ble_eq_true rfl) dX7_create_8 ?_
    refine z_if_ne (tgt := 24) C dX7_create_11 (by decide) (fun c3 => ?_) (fun c3 => ?_)
    · have hF := zelse hF c3
      refine z_iload_n C dX7_create_24 rfl 3 rfl ?_
      refine z_iload C dX7_create_25 4 rfl ?_
      rcases zth_some hF with ⟨Er4, er4, hE⟩ | ⟨r4, er4, hF⟩
      · subst hE
        exact z_xcallS_T (n := 2) (As := [.int x3, .int x4]) C X (c_X7_checkLease l hl D cI cJ cZ x3 x4 (.inl Er4) er4) gX7_create_X7_checkLease rfl (by decide +kernel) ⟨Nat.le_of_ble_eq_true rfl, Nat.le_of_ble_eq_true rfl⟩ ⟨Nat.le_refl 1, Nat.le_refl 6⟩ rfl rfl (Nat.le_of_ble_eq_true rfl) dX7_create_27
      · refine z_xcallS_R (n := 2) (As := [.int x3, .int x4]) C X.1 (c_X7_checkLease l hl D cI cJ cZ x3 x4 (.inr r4) er4) gX7_create_X7_checkLease rfl (by decide +kernel) ⟨Nat.le_of_ble_eq_true rfl, Nat.le_of_ble_eq_true rfl⟩ ⟨Nat.zero_le _, Nat.zero_le _⟩ rfl rfl (Nat.le_of_ble_eq_true rfl) dX7_create_27 ?_
        refine z_iload C dX7_create_30 5 rfl ?_
        refine z_iconst (v := 0) C dX7_create_32 (by decide) ?_
        refine z_bipush (v := 100) C dX7_create_33 (by decide) ?_
        rcases zth_some hF with ⟨Er5, er5, hE⟩ | ⟨r5, er5, hF⟩
        · subst hE
          exact z_xcallS_T (n := 3) (As := [.int x5, .int 0, .int 100]) C X (c_X7_checkRange l hl D cI cJ cZ x5 0 100 (.inl Er5) er5) gX7_create_X7_checkRange rfl (by decide +kernel) ⟨Nat.le_of_ble_eq_true rfl, Nat.le_of_ble_eq_true rfl⟩ ⟨Nat.le_refl 1, Nat.le_refl 6⟩ rfl rfl (Nat.le_of_ble_eq_true rfl) dX7_create_35
        · refine z_xcallS_R (n := 3) (As := [.int x5, .int 0, .int 100]) C X.1 (c_X7_checkRange l hl D cI cJ cZ x5 0 100 (.inr r5) er5) gX7_create_X7_checkRange rfl (by decide +kernel) ⟨Nat.le_of_ble_eq_true rfl, Nat.le_of_ble_eq_true rfl⟩ ⟨Nat.zero_le _, Nat.zero_le _⟩ rfl rfl (Nat.le_of_ble_eq_true rfl) dX7_create_35 ?_
          refine z_aload_n C dX7_create_38 rfl 0 rfl ?_
          refine z_iload_n C dX7_create_39 rfl 1 rfl ?_
          rcases zth_some hF with ⟨Er6, er6, hE⟩ | ⟨r6, er6, hF⟩
          · subst hE
            exact z_xcallV_T (n := 1) (As := [.int x1]) C X (c_X7_checkAliveToken l hl D cI cJ cZ ab a5 a3 a6 a1 a0 B P M T K U L x1 (.inl Er6) er6) gX7_create_X7_checkAliveToken rfl (by decide +kernel) ⟨Nat.le_of_ble_eq_true rfl, Nat.le_of_ble_eq_true rfl⟩ ⟨Nat.le_refl 1, Nat.le_refl 6⟩ 0 rfl rfl [] [] rfl rfl rfl (Nat.le_of_ble_eq_true rfl) dX7_create_40
          · refine z_xcallV_R (n := 1) (As := [.int x1]) (ws' := (zwX7 cI cJ cZ ab a5 a3 a6 a1 a0 B P M T K U L)) C X.1 (c_X7_checkAliveToken l hl D cI cJ cZ ab a5 a3 a6 a1 a0 B P M T K U L x1 (.inr r6) er6) gX7_create_X7_checkAliveToken rfl (by decide +kernel) ⟨Nat.le_of_ble_eq_true rfl, Nat.le_of_ble_eq_true rfl⟩ ⟨Nat.zero_le _, Nat.zero_le _⟩ 0 rfl rfl [] [] rfl rfl rfl rfl (Nat.le_of_ble_eq_true rfl) dX7_create_40 ?_
            refine z_aload_n C dX7_create_43 rfl 0 rfl ?_
            refine z_get (ref := "SecretBroker") (v := .ref (a6 0)) C hX7_create_X7 0 rfl rfl 2 (by decide) kX7_create_26 (fun _ h9 => h9) rfl dX7_create_44 ?_
            obtain ⟨r7, er7, hF⟩ := zbd hF
            refine z_callU (n := 0) (As := []) (ws' := (zwX7 cI cJ cZ ab a5 a3 a6 a1 a0 B P M T K U L)) C (c_X2_living_6 l D cI cJ cZ a6 T r7 er7) gX7_create_X2_living_u124X6 rfl rfl rfl rfl (by decide +kernel) ⟨Nat.le_of_ble_eq_true rfl, Nat.le_of_ble_eq_true rfl⟩ ⟨Nat.zero_le _, Nat.zero_le _⟩ 10 rfl rfl (zwB ab a5 a3 a6 a1 a0 B ++ zwX5 cI cJ cZ a5 P ++ zwX3 cI cJ cZ a3 M) (zwX1 cI cJ cZ a1 K ++ zwX0 cI cJ cZ a0 U L) rfl rfl rfl rfl (Nat.le_of_ble_eq_true rfl) dX7_create_47 ?_
            refine z_bipush (v := 30) C dX7_create_50 (by decide) ?_
            refine z_icmp_ge (tgt := 65) C dX7_create_52 (by decide) (fun c8 => ?_) (fun c8 => ?_)
            · have hF := zif hF c8
              have hu := Option.some.inj hF
              subst hu
              exact z_throw (E := "java/lang/IllegalStateException") (text := "30 tokens are alive") C X hl (by decide +kernel) kX7_create_52 kX7_create_95052 (by decide +kernel) (fun w h => List.mem_cons_of_mem _ (List.mem_append_left _ (List.mem_append_right _ h))) zbad_ISE X.1.2.2.1.1.1 zgood_ISE dX7_create_65 dX7_create_68 dX7_create_69 dX7_create_71 dX7_create_74 (Nat.le_of_ble_eq_true rfl) (Nat.le_of_ble_eq_true rfl)
            · have hF := zelse hF c8
              refine z_aload_n C dX7_create_55 rfl 0 rfl ?_
              refine z_get (ref := "SecretBroker") (v := .ref (a6 0)) C hX7_create_X7 0 rfl rfl 2 (by decide) kX7_create_26 (fun _ h9 => h9) rfl dX7_create_56 ?_
              obtain ⟨r9, er9, hF⟩ := zbd hF
              refine z_callU (n := 0) (As := []) (ws' := (zwX7 cI cJ cZ ab a5 a3 a6 a1 a0 B P M T K U L)) C (c_X2_isFull_6 l D cI cJ cZ a6 T r9 er9) gX7_create_X2_isFull_u127X6 rfl rfl rfl rfl (by decide +kernel) ⟨Nat.le_of_ble_eq_true rfl, Nat.le_of_ble_eq_true rfl⟩ ⟨Nat.zero_le _, Nat.zero_le _⟩ 10 rfl rfl (zwB ab a5 a3 a6 a1 a0 B ++ zwX5 cI cJ cZ a5 P ++ zwX3 cI cJ cZ a3 M) (zwX1 cI cJ cZ a1 K ++ zwX0 cI cJ cZ a0 U L) rfl rfl rfl rfl (Nat.le_of_ble_eq_true rfl) dX7_create_59 ?_
              refine z_if_eq (tgt := 75) C dX7_create_62 (by decide) (fun c10 => ?_) (fun c10 => ?_)
              · have hF := zif hF c10
                refine z_aload_n C dX7_create_75 rfl 0 rfl ?_
                refine z_get (ref := "SecretBroker") (v := .ref (a6 0)) C hX7_create_X7 0 rfl rfl 2 (by decide) kX7_create_26 (fun _ h9 => h9) rfl dX7_create_76 ?_
                refine z_aload_n C dX7_create_79 rfl 0 rfl ?_
                refine z_get (ref := "SecretBroker") (v := .int (B 5 0)) C hX7_create_X7 0 rfl rfl 5 (by decide) kX7_create_44 (fun _ h9 => h9) rfl dX7_create_80 ?_
                refine z_aload_n C dX7_create_83 rfl 0 rfl ?_
                refine z_get (ref := "SecretBroker") (v := .int (B 5 0)) C hX7_create_X7 0 rfl rfl 5 (by decide) kX7_create_44 (fun _ h9 => h9) rfl dX7_create_84 ?_
                refine z_iload_n C dX7_create_87 rfl 3 rfl ?_
                refine z_iadd C dX7_create_88 ?_
                refine z_iload C dX7_create_89 4 rfl ?_
                obtain ⟨r11, er11, hF⟩ := zbd hF
                refine z_callU (n := 3) (As := [.int (B 5 0), .int ((B 5 0) + x3), .int x4]) (ws' := (zwX7 cI cJ cZ ab a5 a3 a6 a1 a0 B P M r11.2 K U L)) C (c_X2_add_6 l D cI cJ cZ a6 T (B 5 0) ((B 5 0) + x3) x4 r11 er11) gX7_create_X2_add_u133X6 rfl rfl rfl rfl (by decide +kernel) ⟨Nat.le_of_ble_eq_true rfl, Nat.le_of_ble_eq_true rfl⟩ ⟨Nat.zero_le _, Nat.zero_le _⟩ 10 rfl rfl (zwB ab a5 a3 a6 a1 a0 B ++ zwX5 cI cJ cZ a5 P ++ zwX3 cI cJ cZ a3 M) (zwX1 cI cJ cZ a1 K ++ zwX0 cI cJ cZ a0 U L) rfl rfl rfl rfl (Nat.le_of_ble_eq_true rfl) dX7_create_91 ?_
                refine z_istore (lv' := [(6, .int r11.1), (0, .ref ab), (1, .int x1), (2, .int x2), (3, .int x3), (4, .int x4), (5, .int x5)]) C dX7_create_94 (by decide) rfl ?_
                refine z_aload_n C dX7_create_96 rfl 1 rfl ?_
                refine z_get (ref := "SecretBroker") (v := .ref (a6 0)) C hX7_create_X7 0 rfl rfl 2 (by decide) kX7_create_26 (fun _ h9 => h9) rfl dX7_create_97 ?_
                refine z_iload C dX7_create_100 0 rfl ?_
                refine z_iload_n C dX7_create_102 rfl 2 rfl ?_
                refine z_iload_n C dX7_create_103 rfl 3 rfl ?_
                refine z_iload C dX7_create_104 6 rfl ?_
                refine z_if_ne (tgt := 113) C dX7_create_106 (by decide) (fun c12 => ?_) (fun c12 => ?_)
                · have hF := zelse hF c12
                  refine z_iload C dX7_create_113 6 rfl ?_
                  obtain ⟨r13, er13, hF⟩ := zbd hF
                  refine z_callV (n := 4) (As := [.int r11.1, .int x1, .int x2, .int x5]) (ws' := (zwX7 cI cJ cZ ab a5 a3 a6 a1 a0 B P M r13 K U L)) C (c_X6_describe l D cI cJ cZ a6 r11.2 r11.1 x1 x2 x5 r13 er13) gX7_create_X6_describe rfl rfl rfl (by decide +kernel) ⟨Nat.le_of_ble_eq_true rfl, Nat.le_of_ble_eq_true rfl⟩ ⟨Nat.zero_le _, Nat.zero_le _⟩ 10 rfl rfl (zwB ab a5 a3 a6 a1 a0 B ++ zwX5 cI cJ cZ a5 P ++ zwX3 cI cJ cZ a3 M) (zwX1 cI cJ cZ a1 K ++ zwX0 cI cJ cZ a0 U L) rfl rfl rfl rfl (Nat.le_of_ble_eq_true rfl) dX7_create_115 ?_
                  refine z_aload_n C dX7_create_118 rfl 1 rfl ?_
                  refine z_get (ref := "SecretBroker") (v := .ref (a0 0)) C hX7_create_X7 0 rfl rfl 4 (by decide) kX7_create_40 (fun _ h9 => h9) rfl dX7_create_119 ?_
                  refine z_iconst (v := 0) C dX7_create_122 (by decide) ?_
                  refine z_iload_n C dX7_create_123 rfl 2 rfl ?_
                  refine z_iload C dX7_create_124 0 rfl ?_
                  refine z_aload_n C dX7_create_126 rfl 1 rfl ?_
                  refine z_get (ref := "SecretBroker") (v := .int (B 5 0)) C hX7_create_X7 0 rfl rfl 5 (by decide) kX7_create_44 (fun _ h9 => h9) rfl dX7_create_127 ?_
                  obtain ⟨r14, er14, hF⟩ := zbd hF
                  refine z_callV (n := 4) (As := [.int 0, .int x1, .int r11.1, .int (B 5 0)]) (ws' := (zwX7 cI cJ cZ ab a5 a3 a6 a1 a0 B P M r13 K r14.1 r14.2)) C (c_X0_write l D cI cJ cZ a0 U L 0 x1 r11.1 (B 5 0) r14 er14) gX7_create_X0_write rfl rfl rfl (by decide +kernel) ⟨Nat.le_of_ble_eq_true rfl, Nat.le_of_ble_eq_true rfl⟩ ⟨Nat.zero_le _, Nat.zero_le _⟩ 25 rfl rfl (zwB ab a5 a3 a6 a1 a0 B ++ zwX5 cI cJ cZ a5 P ++ zwX3 cI cJ cZ a3 M ++ zwX6 cI cJ cZ a6 r13 ++ zwX1 cI cJ cZ a1 K) [] rfl rfl rfl rfl (Nat.le_of_ble_eq_true rfl) dX7_create_130 ?_
                  refine z_iload C dX7_create_133 0 rfl ?_
                  have hu := Option.some.inj hF
                  subst hu
                  exact z_xiret C dX7_create_135 rfl rfl
                · have hF := zif hF c12
                  refine z_iconst (v := (-1)) C dX7_create_109 (by decide) ?_
                  refine z_goto (tgt := 115) C dX7_create_110 (by decide) ?_
                  obtain ⟨r15, er15, hF⟩ := zbd hF
                  refine z_callV (n := 4) (As := [.int r11.1, .int x1, .int x2, .int (-1)]) (ws' := (zwX7 cI cJ cZ ab a5 a3 a6 a1 a0 B P M r15 K U L)) C (c_X6_describe l D cI cJ cZ a6 r11.2 r11.1 x1 x2 (-1) r15 er15) gX7_create_X6_describe rfl rfl rfl (by decide +kernel) ⟨Nat.le_of_ble_eq_true rfl, Nat.le_of_ble_eq_true rfl⟩ ⟨Nat.zero_le _, Nat.zero_le _⟩ 10 rfl rfl (zwB ab a5 a3 a6 a1 a0 B ++ zwX5 cI cJ cZ a5 P ++ zwX3 cI cJ cZ a3 M) (zwX1 cI cJ cZ a1 K ++ zwX0 cI cJ cZ a0 U L) rfl rfl rfl rfl (Nat.le_of_ble_eq_true rfl) dX7_create_115 ?_
                  refine z_aload_n C dX7_create_118 rfl 1 rfl ?_
                  refine z_get (ref := "SecretBroker") (v := .ref (a0 0)) C hX7_create_X7 0 rfl rfl 4 (by decide) kX7_create_40 (fun _ h9 => h9) rfl dX7_create_119 ?_
                  refine z_iconst (v := 0) C dX7_create_122 (by decide) ?_
                  refine z_iload_n C dX7_create_123 rfl 2 rfl ?_
                  refine z_iload C dX7_create_124 0 rfl ?_
                  refine z_aload_n C dX7_create_126 rfl 1 rfl ?_
                  refine z_get (ref := "SecretBroker") (v := .int (B 5 0)) C hX7_create_X7 0 rfl rfl 5 (by decide) kX7_create_44 (fun _ h9 => h9) rfl dX7_create_127 ?_
                  obtain ⟨r16, er16, hF⟩ := zbd hF
                  refine z_callV (n := 4) (As := [.int 0, .int x1, .int r11.1, .int (B 5 0)]) (ws' := (zwX7 cI cJ cZ ab a5 a3 a6 a1 a0 B P M r15 K r16.1 r16.2)) C (c_X0_write l D cI cJ cZ a0 U L 0 x1 r11.1 (B 5 0) r16 er16) gX7_create_X0_write rfl rfl rfl (by decide +kernel) ⟨Nat.le_of_ble_eq_true rfl, Nat.le_of_ble_eq_true rfl⟩ ⟨Nat.zero_le _, Nat.zero_le _⟩ 25 rfl rfl (zwB ab a5 a3 a6 a1 a0 B ++ zwX5 cI cJ cZ a5 P ++ zwX3 cI cJ cZ a3 M ++ zwX6 cI cJ cZ a6 r15 ++ zwX1 cI cJ cZ a1 K) [] rfl rfl rfl rfl (Nat.le_of_ble_eq_true rfl) dX7_create_130 ?_
                  refine z_iload C dX7_create_133 0 rfl ?_
                  have hu := Option.some.inj hF
                  subst hu
                  exact z_xiret C dX7_create_135 rfl rfl
              · have hF := zelse hF c10
                have hu := Option.some.inj hF
                subst hu
                exact z_throw (E := "java/lang/IllegalStateException") (text := "30 tokens are alive") C X hl (by decide +kernel) kX7_create_52 kX7_create_95052 (by decide +kernel) (fun w h => List.mem_cons_of_mem _ (List.mem_append_left _ (List.mem_append_right _ h))) zbad_ISE X.1.2.2.1.1.1 zgood_ISE dX7_create_65 dX7_create_68 dX7_create_69 dX7_create_71 dX7_create_74 (Nat.le_of_ble_eq_true rfl) (Nat.le_of_ble_eq_true rfl)
    · have hF := zif hF c3
      have hu := Option.some.inj hF
      subst hu
      exact z_throw (E := "java/lang/IllegalArgumentException") (text := "a policy that there is not, or that the parent has not") C X hl (by decide +kernel) kX7_create_72 kX7_create_95072 (by decide +kernel) (fun w h => List.mem_cons_of_mem _ (List.mem_append_left _ (List.mem_append_left _ (List.mem_append_right _ h)))) zbad_IAE X.1.2.2.1.1.2.1 zgood_IAE dX7_create_14 dX7_create_17 dX7_create_18 dX7_create_20 dX7_create_23 (Nat.le_of_ble_eq_true rfl) (Nat.le_of_ble_eq_true rfl)
theorem kX7_checkEndingToken_52 : Cond.classLink RX7 52 "java/lang/IllegalStateException" ∈ wsX7_checkEndingToken := by decide +kernel
theorem kX7_checkEndingToken_95052 : Cond.initialized "java/lang/IllegalStateException" ∈ wsX7_checkEndingToken := by decide +kernel
set_option maxHeartbeats 4000000 in
set_option maxRecDepth 100000 in
theorem c_X7_checkEndingToken (l : Launch) (hl : l.stackTraces = false) (D : va_G) (cI cJ cZ : ClassId) (ab : Nat) (a5 : Nat → Nat) (a3 : Nat → Nat) (a6 : Nat → Nat) (a1 : Nat → Nat) (a0 : Nat → Nat) (B : SS) (P : SS) (M : SS) (T : SS) (K : SS) (U : SS) (L : SL) (x1 : Int32) (u : String ⊕ Unit) (hF : f_X7_checkEndingToken T x1 = some u) : zO l yX7_checkEndingToken wsX7_checkEndingToken 7 113 D (zTy cI cJ cZ) [.ref ab, .int x1] (zwX7 cI cJ cZ ab a5 a3 a6 a1 a0 B P M T K U L) (zo (fun (v : Unit) => (none, (zwX7 cI cJ cZ ab a5 a3 a6 a1 a0 B P M T K U L))) u) := by
  refine z_xbody (cc := cX7_checkEndingToken) (maxL := 2) (rty := none) (own := RX7) (lv := [(0, .ref ab), (1, .int x1)]) (by decide +kernel) rfl rfl (Nat.le_of_ble_eq_true rfl) rfl (fun p e s m args below meth c A C X => ?_)
  refine z_iload_n C dX7_checkEndingToken_0 rfl 1 rfl ?_
  refine z_if_ne (tgt := 15) C dX7_checkEndingToken_1 (by decide) (fun c1 => ?_) (fun c1 => ?_)
  · have hF := zelse hF c1
    refine z_aload_n C dX7_checkEndingToken_15 rfl 0 rfl ?_
    refine z_iload_n C dX7_checkEndingToken_16 rfl 1 rfl ?_
    rcases zth_some hF with ⟨Er2, er2, hE⟩ | ⟨r2, er2, hF⟩
    · subst hE
      exact z_xcallV_T (n := 1) (As := [.int x1]) C X (c_X7_checkAliveToken l hl D cI cJ cZ ab a5 a3 a6 a1 a0 B P M T K U L x1 (.inl Er2) er2) gX7_checkEndingToken_X7_checkAliveToken rfl (by decide +kernel) ⟨Nat.le_of_ble_eq_true rfl, Nat.le_of_ble_eq_true rfl⟩ ⟨Nat.le_refl 1, Nat.le_refl 6⟩ 0 rfl rfl [] [] rfl rfl rfl (Nat.le_of_ble_eq_true rfl) dX7_checkEndingToken_17
    · refine z_xcallV_R (n := 1) (As := [.int x1]) (ws' := (zwX7 cI cJ cZ ab a5 a3 a6 a1 a0 B P M T K U L)) C X.1 (c_X7_checkAliveToken l hl D cI cJ cZ ab a5 a3 a6 a1 a0 B P M T K U L x1 (.inr r2) er2) gX7_checkEndingToken_X7_checkAliveToken rfl (by decide +kernel) ⟨Nat.le_of_ble_eq_true rfl, Nat.le_of_ble_eq_true rfl⟩ ⟨Nat.zero_le _, Nat.zero_le _⟩ 0 rfl rfl [] [] rfl rfl rfl rfl (Nat.le_of_ble_eq_true rfl) dX7_checkEndingToken_17 ?_
      have hu := Option.some.inj hF
      subst hu
      exact z_xvret C dX7_checkEndingToken_20 rfl
  · have hF := zif hF c1
    have hu := Option.some.inj hF
    subst hu
    exact z_throwW (E := "java/lang/IllegalStateException") (text := "the root has no end") C X hl (by decide +kernel) kX7_checkEndingToken_52 kX7_checkEndingToken_95052 (by decide +kernel) (fun w h => List.mem_cons_of_mem _ (List.mem_append_right _ h)) zbad_ISE X.1.2.2.1.1.1 zgood_ISE dX7_checkEndingToken_4 dX7_checkEndingToken_7 dX7_checkEndingToken_8 dX7_checkEndingToken_11 dX7_checkEndingToken_14 (Nat.le_of_ble_eq_true rfl) (Nat.le_of_ble_eq_true rfl)
theorem kX7_renew_26 : Cond.fieldLink RX7 26 "SecretBroker" "tokenTable" "LSecretBroker$Tokens;" ∈ wsX7_renew := by decide +kernel
theorem kX7_renew_44 : Cond.fieldLink RX7 44 "SecretBroker" "now" "I" ∈ wsX7_renew := by decide +kernel
theorem kX7_renew_40 : Cond.fieldLink RX7 40 "SecretBroker" "audit" "LSecretBroker$Audit;" ∈ wsX7_renew := by decide +kernel
theorem hX7_renew_X7 : ∀ w ∈ wsX70, w ∈ wsX7_renew := by decide +kernel
set_option maxHeartbeats 4000000 in
set_option maxRecDepth 100000 in
theorem c_X7_renew (l : Launch) (hl : l.stackTraces = false) (D : va_G) (cI cJ cZ : ClassId) (ab : Nat) (a5 : Nat → Nat) (a3 : Nat → Nat) (a6 : Nat → Nat) (a1 : Nat → Nat) (a0 : Nat → Nat) (B : SS) (P : SS) (M : SS) (T : SS) (K : SS) (U : SS) (L : SL) (x1 : Int32) (x2 : Int32) (u : String ⊕ (Int32 × SS × SS × SL)) (hF : f_X7_renew B T U L x1 x2 = some u) : zO l yX7_renew wsX7_renew 8 134 D (zTy cI cJ cZ) [.ref ab, .int x1, .int x2] (zwX7 cI cJ cZ ab a5 a3 a6 a1 a0 B P M T K U L) (zo (fun (v : (Int32 × SS × SS × SL)) => ((some (.int v.1)), (zwX7 cI cJ cZ ab a5 a3 a6 a1 a0 B P M v.2.1 K v.2.2.1 v.2.2.2))) u) := by
  refine z_xbody (cc := cX7_renew) (maxL := 4) (rty := (some .int)) (own := RX7) (lv := [(0, .ref ab), (1, .int x1), (2, .int x2)]) (by decide +kernel) rfl rfl (Nat.le_of_ble_eq_true rfl) rfl (fun p e s m args below meth c A C X => ?_)
  refine z_aload_n C dX7_renew_0 rfl 0 rfl ?_
  refine z_iload_n C dX7_renew_1 rfl 1 rfl ?_
  rcases zth_some hF with ⟨Er1, er1, hE⟩ | ⟨r1, er1, hF⟩
  · subst hE
    exact z_xcallV_T (n := 1) (As := [.int x1]) C X (c_X7_checkToken l hl D cI cJ cZ ab a5 a3 a6 a1 a0 B P M T K U L x1 (.inl Er1) er1) gX7_renew_X7_checkToken rfl (by decide +kernel) ⟨Nat.le_of_ble_eq_true rfl, Nat.le_of_ble_eq_true rfl⟩ ⟨Nat.le_refl 1, Nat.le_refl 6⟩ 0 rfl rfl [] [] rfl rfl rfl (Nat.le_of_ble_eq_true rfl) dX7_renew_2
  · refine z_xcallV_R (n := 1) (As := [.int x1]) (ws' := (zwX7 cI cJ cZ ab a5 a3 a6 a1 a0 B P M T K U L)) C X.1 (c_X7_checkToken l hl D cI cJ cZ ab a5 a3 a6 a1 a0 B P M T K U L x1 (.inr r1) er1) gX7_renew_X7_checkToken rfl (by decide +kernel) ⟨Nat.le_of_ble_eq_true rfl, Nat.le_of_ble_eq_true rfl⟩ ⟨Nat.zero_le _, Nat.zero_le _⟩ 0 rfl rfl [] [] rfl rfl rfl rfl (Nat.le_of_ble_eq_true rfl) dX7_renew_2 ?_
    refine z_iload_n C dX7_renew_5 rfl 2 rfl ?_
    refine z_iconst (v := 1) C dX7_renew_6 (by decide) ?_
    refine z_sipush (v := 1000) C dX7_renew_7 (by decide) ?_
    rcases zth_some hF with ⟨Er2, er2, hE⟩ | ⟨r2, er2, hF⟩
    · subst hE
      exact z_xcallS_T (n := 3) (As := [.int x2, .int 1, .int 1000]) C X (c_X7_checkRange l hl D cI cJ cZ x2 1 1000 (.inl Er2) er2) gX7_renew_X7_checkRange rfl (by decide +kernel) ⟨Nat.le_of_ble_eq_true rfl, Nat.le_of_ble_eq_true rfl⟩ ⟨Nat.le_refl 1, Nat.le_refl 6⟩ rfl rfl (Nat.le_of_ble_eq_true rfl) dX7_renew_10
    · refine z_xcallS_R (n := 3) (As := [.int x2, .int 1, .int 1000]) C X.1 (c_X7_checkRange l hl D cI cJ cZ x2 1 1000 (.inr r2) er2) gX7_renew_X7_checkRange rfl (by decide +kernel) ⟨Nat.le_of_ble_eq_true rfl, Nat.le_of_ble_eq_true rfl⟩ ⟨Nat.zero_le _, Nat.zero_le _⟩ rfl rfl (Nat.le_of_ble_eq_true rfl) dX7_renew_10 ?_
      refine z_aload_n C dX7_renew_13 rfl 0 rfl ?_
      refine z_iload_n C dX7_renew_14 rfl 1 rfl ?_
      rcases zth_some hF with ⟨Er3, er3, hE⟩ | ⟨r3, er3, hF⟩
      · subst hE
        exact z_xcallV_T (n := 1) (As := [.int x1]) C X (c_X7_checkEndingToken l hl D cI cJ cZ ab a5 a3 a6 a1 a0 B P M T K U L x1 (.inl Er3) er3) gX7_renew_X7_checkEndingToken rfl (by decide +kernel) ⟨Nat.le_of_ble_eq_true rfl, Nat.le_of_ble_eq_true rfl⟩ ⟨Nat.le_refl 1, Nat.le_refl 6⟩ 0 rfl rfl [] [] rfl rfl rfl (Nat.le_of_ble_eq_true rfl) dX7_renew_15
      · refine z_xcallV_R (n := 1) (As := [.int x1]) (ws' := (zwX7 cI cJ cZ ab a5 a3 a6 a1 a0 B P M T K U L)) C X.1 (c_X7_checkEndingToken l hl D cI cJ cZ ab a5 a3 a6 a1 a0 B P M T K U L x1 (.inr r3) er3) gX7_renew_X7_checkEndingToken rfl (by decide +kernel) ⟨Nat.le_of_ble_eq_true rfl, Nat.le_of_ble_eq_true rfl⟩ ⟨Nat.zero_le _, Nat.zero_le _⟩ 0 rfl rfl [] [] rfl rfl rfl rfl (Nat.le_of_ble_eq_true rfl) dX7_renew_15 ?_
        refine z_aload_n C dX7_renew_18 rfl 0 rfl ?_
        refine z_get (ref := "SecretBroker") (v := .ref (a6 0)) C hX7_renew_X7 0 rfl rfl 2 (by decide) kX7_renew_26 (fun _ h9 => h9) rfl dX7_renew_19 ?_
        refine z_iload_n C dX7_renew_22 rfl 1 rfl ?_
        refine z_aload_n C dX7_renew_23 rfl 0 rfl ?_
        refine z_get (ref := "SecretBroker") (v := .int (B 5 0)) C hX7_renew_X7 0 rfl rfl 5 (by decide) kX7_renew_44 (fun _ h9 => h9) rfl dX7_renew_24 ?_
        refine z_iload_n C dX7_renew_27 rfl 2 rfl ?_
        obtain ⟨r4, er4, hF⟩ := zbd hF
        refine z_callU (n := 3) (As := [.int x1, .int (B 5 0), .int x2]) (ws' := (zwX7 cI cJ cZ ab a5 a3 a6 a1 a0 B P M r4 K U L)) C (c_X2_prolong_6 l D cI cJ cZ a6 T x1 (B 5 0) x2 r4 er4) gX7_renew_X2_prolong_u146X6 rfl rfl rfl rfl (by decide +kernel) ⟨Nat.le_of_ble_eq_true rfl, Nat.le_of_ble_eq_true rfl⟩ ⟨Nat.zero_le _, Nat.zero_le _⟩ 10 rfl rfl (zwB ab a5 a3 a6 a1 a0 B ++ zwX5 cI cJ cZ a5 P ++ zwX3 cI cJ cZ a3 M) (zwX1 cI cJ cZ a1 K ++ zwX0 cI cJ cZ a0 U L) rfl rfl rfl rfl (Nat.le_of_ble_eq_true rfl) dX7_renew_28 ?_
        refine z_aload_n C dX7_renew_31 rfl 0 rfl ?_
        refine z_get (ref := "SecretBroker") (v := .ref (a6 0)) C hX7_renew_X7 0 rfl rfl 2 (by decide) kX7_renew_26 (fun _ h9 => h9) rfl dX7_renew_32 ?_
        refine z_iload_n C dX7_renew_35 rfl 1 rfl ?_
        obtain ⟨r5, er5, hF⟩ := zbd hF
        refine z_callU (n := 1) (As := [.int x1]) (ws' := (zwX7 cI cJ cZ ab a5 a3 a6 a1 a0 B P M r4 K U L)) C (c_X2_endAt_6 l D cI cJ cZ a6 r4 x1 r5 er5) gX7_renew_X2_endAt_u149X6 rfl rfl rfl rfl (by decide +kernel) ⟨Nat.le_of_ble_eq_true rfl, Nat.le_of_ble_eq_true rfl⟩ ⟨Nat.zero_le _, Nat.zero_le _⟩ 10 rfl rfl (zwB ab a5 a3 a6 a1 a0 B ++ zwX5 cI cJ cZ a5 P ++ zwX3 cI cJ cZ a3 M) (zwX1 cI cJ cZ a1 K ++ zwX0 cI cJ cZ a0 U L) rfl rfl rfl rfl (Nat.le_of_ble_eq_true rfl) dX7_renew_36 ?_
        refine z_istore_n (lv' := [(3, .int r5), (0, .ref ab), (1, .int x1), (2, .int x2)]) C dX7_renew_39 rfl (by decide) rfl ?_
        refine z_aload_n C dX7_renew_40 rfl 1 rfl ?_
        refine z_get (ref := "SecretBroker") (v := .ref (a0 0)) C hX7_renew_X7 0 rfl rfl 4 (by decide) kX7_renew_40 (fun _ h9 => h9) rfl dX7_renew_41 ?_
        refine z_iconst (v := 1) C dX7_renew_44 (by decide) ?_
        refine z_iload_n C dX7_renew_45 rfl 2 rfl ?_
        refine z_iload_n C dX7_renew_46 rfl 0 rfl ?_
        refine z_aload_n C dX7_renew_47 rfl 1 rfl ?_
        refine z_get (ref := "SecretBroker") (v := .int (B 5 0)) C hX7_renew_X7 0 rfl rfl 5 (by decide) kX7_renew_44 (fun _ h9 => h9) rfl dX7_renew_48 ?_
        obtain ⟨r6, er6, hF⟩ := zbd hF
        refine z_callV (n := 4) (As := [.int 1, .int x1, .int r5, .int (B 5 0)]) (ws' := (zwX7 cI cJ cZ ab a5 a3 a6 a1 a0 B P M r4 K r6.1 r6.2)) C (c_X0_write l D cI cJ cZ a0 U L 1 x1 r5 (B 5 0) r6 er6) gX7_renew_X0_write rfl rfl rfl (by decide +kernel) ⟨Nat.le_of_ble_eq_true rfl, Nat.le_of_ble_eq_true rfl⟩ ⟨Nat.zero_le _, Nat.zero_le _⟩ 25 rfl rfl (zwB ab a5 a3 a6 a1 a0 B ++ zwX5 cI cJ cZ a5 P ++ zwX3 cI cJ cZ a3 M ++ zwX6 cI cJ cZ a6 r4 ++ zwX1 cI cJ cZ a1 K) [] rfl rfl rfl rfl (Nat.le_of_ble_eq_true rfl) dX7_renew_51 ?_
        refine z_iload_n C dX7_renew_54 rfl 0 rfl ?_
        have hu := Option.some.inj hF
        subst hu
        exact z_xiret C dX7_renew_55 rfl rfl
theorem kX7_endWhatHungOnTokens_26 : Cond.fieldLink RX7 26 "SecretBroker" "tokenTable" "LSecretBroker$Tokens;" ∈ wsX7_endWhatHungOnTokens := by decide +kernel
theorem kX7_endWhatHungOnTokens_33 : Cond.fieldLink RX7 33 "SecretBroker" "credentialTable" "LSecretBroker$Credentials;" ∈ wsX7_endWhatHungOnTokens := by decide +kernel
theorem hX7_endWhatHungOnTokens_X7 : ∀ w ∈ wsX70, w ∈ wsX7_endWhatHungOnTokens := by decide +kernel
set_option maxHeartbeats 4000000 in
set_option maxRecDepth 100000 in
theorem c_X7_endWhatHungOnTokens (l : Launch) (D : va_G) (cI cJ cZ : ClassId) (ab : Nat) (a5 : Nat → Nat) (a3 : Nat → Nat) (a6 : Nat → Nat) (a1 : Nat → Nat) (a0 : Nat → Nat) (B : SS) (P : SS) (M : SS) (T : SS) (K : SS) (U : SS) (L : SL) (u : Int32 × SS × SS) (hF : f_X7_endWhatHungOnTokens T K = some u) : zM l yX7_endWhatHungOnTokens wsX7_endWhatHungOnTokens ({ frames := 4, cells := 0, slots := 0, locals := 86 }) D (zTy cI cJ cZ) [.ref ab] (zwX7 cI cJ cZ ab a5 a3 a6 a1 a0 B P M T K U L) (some (.int u.1)) (zwX7 cI cJ cZ ab a5 a3 a6 a1 a0 B P M u.2.1 u.2.2 U L) := by
  refine z_body (cc := cX7_endWhatHungOnTokens) (maxL := 2) (rty := (some .int)) (own := RX7) (lv := [(0, .ref ab)]) (by decide +kernel) rfl rfl (Nat.le_of_ble_eq_true rfl) rfl (fun p e s m args below meth c A C => ?_)
  refine z_aload_n C dX7_endWhatHungOnTokens_0 rfl 0 rfl ?_
  refine z_get (ref := "SecretBroker") (v := .ref (a6 0)) C hX7_endWhatHungOnTokens_X7 0 rfl rfl 2 (by decide) kX7_endWhatHungOnTokens_26 (fun _ h9 => h9) rfl dX7_endWhatHungOnTokens_1 ?_
  obtain ⟨r1, er1, hF⟩ := zbd hF
  refine z_callV (n := 0) (As := []) (ws' := (zwX7 cI cJ cZ ab a5 a3 a6 a1 a0 B P M r1.2 K U L)) C (c_X6_endBelowEnded l D cI cJ cZ a6 T r1 er1) gX7_endWhatHungOnTokens_X6_endBelowEnded rfl rfl rfl (by decide +kernel) ⟨Nat.le_of_ble_eq_true rfl, Nat.le_of_ble_eq_true rfl⟩ ⟨Nat.zero_le _, Nat.zero_le _⟩ 10 rfl rfl (zwB ab a5 a3 a6 a1 a0 B ++ zwX5 cI cJ cZ a5 P ++ zwX3 cI cJ cZ a3 M) (zwX1 cI cJ cZ a1 K ++ zwX0 cI cJ cZ a0 U L) rfl rfl rfl rfl (Nat.le_of_ble_eq_true rfl) dX7_endWhatHungOnTokens_4 ?_
  refine z_istore_n (lv' := [(1, .int r1.1), (0, .ref ab)]) C dX7_endWhatHungOnTokens_7 rfl (by decide) rfl ?_
  refine z_iload_n C dX7_endWhatHungOnTokens_8 rfl 0 rfl ?_
  refine z_aload_n C dX7_endWhatHungOnTokens_9 rfl 1 rfl ?_
  refine z_get (ref := "SecretBroker") (v := .ref (a1 0)) C hX7_endWhatHungOnTokens_X7 0 rfl rfl 3 (by decide) kX7_endWhatHungOnTokens_33 (fun _ h9 => h9) rfl dX7_endWhatHungOnTokens_10 ?_
  refine z_aload_n C dX7_endWhatHungOnTokens_13 rfl 1 rfl ?_
  refine z_get (ref := "SecretBroker") (v := .ref (a6 0)) C hX7_endWhatHungOnTokens_X7 0 rfl rfl 2 (by decide) kX7_endWhatHungOnTokens_26 (fun _ h9 => h9) rfl dX7_endWhatHungOnTokens_14 ?_
  obtain ⟨r2, er2, hF⟩ := zbd hF
  refine z_callV (n := 1) (As := [.ref (a6 0)]) (ws' := (zwX7 cI cJ cZ ab a5 a3 a6 a1 a0 B P M r1.2 r2.2 U L)) C (c_X1_endOfEnded l D cI cJ cZ a6 a1 r1.2 K r2 er2) gX7_endWhatHungOnTokens_X1_endOfEnded rfl rfl rfl (by decide +kernel) ⟨Nat.le_of_ble_eq_true rfl, Nat.le_of_ble_eq_true rfl⟩ ⟨Nat.zero_le _, Nat.zero_le _⟩ 18 rfl rfl (zwB ab a5 a3 a6 a1 a0 B ++ zwX5 cI cJ cZ a5 P ++ zwX3 cI cJ cZ a3 M) (zwX0 cI cJ cZ a0 U L) rfl rfl rfl rfl (Nat.le_of_ble_eq_true rfl) dX7_endWhatHungOnTokens_17 ?_
  refine z_iadd C dX7_endWhatHungOnTokens_20 ?_
  have hu := Option.some.inj hF
  subst hu
  exact z_iret C dX7_endWhatHungOnTokens_21 rfl rfl
theorem kX7_endToken_26 : Cond.fieldLink RX7 26 "SecretBroker" "tokenTable" "LSecretBroker$Tokens;" ∈ wsX7_endToken := by decide +kernel
theorem kX7_endToken_40 : Cond.fieldLink RX7 40 "SecretBroker" "audit" "LSecretBroker$Audit;" ∈ wsX7_endToken := by decide +kernel
theorem kX7_endToken_44 : Cond.fieldLink RX7 44 "SecretBroker" "now" "I" ∈ wsX7_endToken := by decide +kernel
theorem hX7_endToken_X7 : ∀ w ∈ wsX70, w ∈ wsX7_endToken := by decide +kernel
set_option maxHeartbeats 4000000 in
set_option maxRecDepth 100000 in
theorem c_X7_endToken (l : Launch) (D : va_G) (cI cJ cZ : ClassId) (ab : Nat) (a5 : Nat → Nat) (a3 : Nat → Nat) (a6 : Nat → Nat) (a1 : Nat → Nat) (a0 : Nat → Nat) (B : SS) (P : SS) (M : SS) (T : SS) (K : SS) (U : SS) (L : SL) (x1 : Int32) (u : Int32 × SS × SS × SS × SL) (hF : f_X7_endToken B T K U L x1 = some u) : zM l yX7_endToken wsX7_endToken ({ frames := 5, cells := 0, slots := 0, locals := 107 }) D (zTy cI cJ cZ) [.ref ab, .int x1] (zwX7 cI cJ cZ ab a5 a3 a6 a1 a0 B P M T K U L) (some (.int u.1)) (zwX7 cI cJ cZ ab a5 a3 a6 a1 a0 B P M u.2.1 u.2.2.1 u.2.2.2.1 u.2.2.2.2) := by
  refine z_body (cc := cX7_endToken) (maxL := 3) (rty := (some .int)) (own := RX7) (lv := [(0, .ref ab), (1, .int x1)]) (by decide +kernel) rfl rfl (Nat.le_of_ble_eq_true rfl) rfl (fun p e s m args below meth c A C => ?_)
  refine z_aload_n C dX7_endToken_0 rfl 0 rfl ?_
  refine z_get (ref := "SecretBroker") (v := .ref (a6 0)) C hX7_endToken_X7 0 rfl rfl 2 (by decide) kX7_endToken_26 (fun _ h9 => h9) rfl dX7_endToken_1 ?_
  refine z_iload_n C dX7_endToken_4 rfl 1 rfl ?_
  obtain ⟨r1, er1, hF⟩ := zbd hF
  refine z_callU (n := 1) (As := [.int x1]) (ws' := (zwX7 cI cJ cZ ab a5 a3 a6 a1 a0 B P M r1.2 K U L)) C (c_X2_end_6 l D cI cJ cZ a6 T x1 r1 er1) gX7_endToken_X2_end_u289X6 rfl rfl rfl rfl (by decide +kernel) ⟨Nat.le_of_ble_eq_true rfl, Nat.le_of_ble_eq_true rfl⟩ ⟨Nat.zero_le _, Nat.zero_le _⟩ 10 rfl rfl (zwB ab a5 a3 a6 a1 a0 B ++ zwX5 cI cJ cZ a5 P ++ zwX3 cI cJ cZ a3 M) (zwX1 cI cJ cZ a1 K ++ zwX0 cI cJ cZ a0 U L) rfl rfl rfl rfl (Nat.le_of_ble_eq_true rfl) dX7_endToken_5 ?_
  refine z_istore_n (lv' := [(2, .int r1.1), (0, .ref ab), (1, .int x1)]) C dX7_endToken_8 rfl (by decide) rfl ?_
  refine z_iload_n C dX7_endToken_9 rfl 0 rfl ?_
  refine z_aload_n C dX7_endToken_10 rfl 1 rfl ?_
  obtain ⟨r2, er2, hF⟩ := zbd hF
  refine z_callV (n := 0) (As := []) (ws' := (zwX7 cI cJ cZ ab a5 a3 a6 a1 a0 B P M r2.2.1 r2.2.2 U L)) C (c_X7_endWhatHungOnTokens l D cI cJ cZ ab a5 a3 a6 a1 a0 B P M r1.2 K U L r2 er2) gX7_endToken_X7_endWhatHungOnTokens rfl rfl rfl (by decide +kernel) ⟨Nat.le_of_ble_eq_true rfl, Nat.le_of_ble_eq_true rfl⟩ ⟨Nat.zero_le _, Nat.zero_le _⟩ 0 rfl rfl [] [] rfl rfl rfl rfl (Nat.le_of_ble_eq_true rfl) dX7_endToken_11 ?_
  refine z_iadd C dX7_endToken_14 ?_
  refine z_istore_n (lv' := [(2, .int (r1.1 + r2.1)), (0, .ref ab), (1, .int x1)]) C dX7_endToken_15 rfl (by decide) rfl ?_
  refine z_aload_n C dX7_endToken_16 rfl 1 rfl ?_
  refine z_get (ref := "SecretBroker") (v := .ref (a0 0)) C hX7_endToken_X7 0 rfl rfl 4 (by decide) kX7_endToken_40 (fun _ h9 => h9) rfl dX7_endToken_17 ?_
  refine z_iconst (v := 4) C dX7_endToken_20 (by decide) ?_
  refine z_iload_n C dX7_endToken_21 rfl 2 rfl ?_
  refine z_iload_n C dX7_endToken_22 rfl 0 rfl ?_
  refine z_aload_n C dX7_endToken_23 rfl 1 rfl ?_
  refine z_get (ref := "SecretBroker") (v := .int (B 5 0)) C hX7_endToken_X7 0 rfl rfl 5 (by decide) kX7_endToken_44 (fun _ h9 => h9) rfl dX7_endToken_24 ?_
  obtain ⟨r3, er3, hF⟩ := zbd hF
  refine z_callV (n := 4) (As := [.int 4, .int x1, .int (r1.1 + r2.1), .int (B 5 0)]) (ws' := (zwX7 cI cJ cZ ab a5 a3 a6 a1 a0 B P M r2.2.1 r2.2.2 r3.1 r3.2)) C (c_X0_write l D cI cJ cZ a0 U L 4 x1 (r1.1 + r2.1) (B 5 0) r3 er3) gX7_endToken_X0_write rfl rfl rfl (by decide +kernel) ⟨Nat.le_of_ble_eq_true rfl, Nat.le_of_ble_eq_true rfl⟩ ⟨Nat.zero_le _, Nat.zero_le _⟩ 25 rfl rfl (zwB ab a5 a3 a6 a1 a0 B ++ zwX5 cI cJ cZ a5 P ++ zwX3 cI cJ cZ a3 M ++ zwX6 cI cJ cZ a6 r2.2.1 ++ zwX1 cI cJ cZ a1 r2.2.2) [] rfl rfl rfl rfl (Nat.le_of_ble_eq_true rfl) dX7_endToken_27 ?_
  refine z_iload_n C dX7_endToken_30 rfl 0 rfl ?_
  have hu := Option.some.inj hF
  subst hu
  exact z_iret C dX7_endToken_31 rfl rfl
