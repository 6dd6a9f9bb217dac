theorem kX7_renewCredential_33 : Cond.fieldLink RX7 33 "SecretBroker" "credentialTable" "LSecretBroker$Credentials;" ∈ wsX7_renewCredential := by decide +kernel
theorem kX7_renewCredential_44 : Cond.fieldLink RX7 44 "SecretBroker" "now" "I" ∈ wsX7_renewCredential := by decide +kernel
theorem kX7_renewCredential_40 : Cond.fieldLink RX7 40 "SecretBroker" "audit" "LSecretBroker$Audit;" ∈ wsX7_renewCredential := by decide +kernel
theorem kX7_renewCredential_52 : Cond.classLink RX7 52 "java/lang/IllegalStateException" ∈ wsX7_renewCredential := by decide +kernel
theorem kX7_renewCredential_95052 : Cond.initialized "java/lang/IllegalStateException" ∈ wsX7_renewCredential := by decide +kernel
theorem hX7_renewCredential_X7 : ∀ w ∈ wsX70, w ∈ wsX7_renewCredential := by decide +kernel
set_option maxHeartbeats 4000000 in
set_option maxRecDepth 100000 in
theorem c_X7_renewCredential (l : Launch) (hl : l.stackTraces = false) (D : va_G) (cI cJ cZ : ClassId) (ab : Nat) (a5 : Nat → Nat) (a3 : Nat → Nat) (a6 : Nat → Nat) (a1 : Nat → Nat) (a0 : Nat → Nat) (B : SS) (P : SS) (M : SS) (T : SS) (K : SS) (U : SS) (L : SL) (x1 : Int32) (x2 : Int32) (u : String ⊕ (Int32 × SS × SS × SL)) (hF : f_X7_renewCredential B K U L x1 x2 = some u) : zO l yX7_renewCredential wsX7_renewCredential 7 114 D (zTy cI cJ cZ) [.ref ab, .int x1, .int x2] (zwX7 cI cJ cZ ab a5 a3 a6 a1 a0 B P M T K U L) (zo (fun (v : (Int32 × SS × SS × SL)) => ((some (.int v.1)), (zwX7 cI cJ cZ ab a5 a3 a6 a1 a0 B P M T v.2.1 v.2.2.1 v.2.2.2))) u) := by
  refine z_xbody (cc := cX7_renewCredential) (maxL := 4) (rty := (some .int)) (own := RX7) (lv := [(0, .ref ab), (1, .int x1), (2, .int x2)]) (by decide +kernel) rfl rfl (Nat.le_of_ble_eq_true rfl) rfl (fun p e s m args below meth c A C X => ?_)
  refine z_aload_n C dX7_renewCredential_0 rfl 0 rfl ?_
  refine z_iload_n C dX7_renewCredential_1 rfl 1 rfl ?_
  rcases zth_some hF with ⟨Er1, er1, hE⟩ | ⟨r1, er1, hF⟩
  · subst hE
    exact z_xcallV_T (n := 1) (As := [.int x1]) C X (c_X7_checkCredential l hl D cI cJ cZ ab a5 a3 a6 a1 a0 B P M T K U L x1 (.inl Er1) er1) gX7_renewCredential_X7_checkCredential rfl (by decide +kernel) ⟨Nat.le_of_ble_eq_true rfl, Nat.le_of_ble_eq_true rfl⟩ ⟨Nat.le_refl 1, Nat.le_refl 6⟩ 0 rfl rfl [] [] rfl rfl rfl (Nat.le_of_ble_eq_true rfl) dX7_renewCredential_2
  · refine z_xcallV_R (n := 1) (As := [.int x1]) (ws' := (zwX7 cI cJ cZ ab a5 a3 a6 a1 a0 B P M T K U L)) C X.1 (c_X7_checkCredential l hl D cI cJ cZ ab a5 a3 a6 a1 a0 B P M T K U L x1 (.inr r1) er1) gX7_renewCredential_X7_checkCredential rfl (by decide +kernel) ⟨Nat.le_of_ble_eq_true rfl, Nat.le_of_ble_eq_true rfl⟩ ⟨Nat.zero_le _, Nat.zero_le _⟩ 0 rfl rfl [] [] rfl rfl rfl rfl (Nat.le_of_ble_eq_true rfl) dX7_renewCredential_2 ?_
    refine z_iload_n C dX7_renewCredential_5 rfl 2 rfl ?_
    refine z_iconst (v := 1) C dX7_renewCredential_6 (by decide) ?_
    refine z_sipush (v := 1000) C dX7_renewCredential_7 (by decide) ?_
    rcases zth_some hF with ⟨Er2, er2, hE⟩ | ⟨r2, er2, hF⟩
    · subst hE
      exact z_xcallS_T (n := 3) (As := [.int x2, .int 1, .int 1000]) C X (c_X7_checkRange l hl D cI cJ cZ x2 1 1000 (.inl Er2) er2) gX7_renewCredential_X7_checkRange rfl (by decide +kernel) ⟨Nat.le_of_ble_eq_true rfl, Nat.le_of_ble_eq_true rfl⟩ ⟨Nat.le_refl 1, Nat.le_refl 6⟩ rfl rfl (Nat.le_of_ble_eq_true rfl) dX7_renewCredential_10
    · refine z_xcallS_R (n := 3) (As := [.int x2, .int 1, .int 1000]) C X.1 (c_X7_checkRange l hl D cI cJ cZ x2 1 1000 (.inr r2) er2) gX7_renewCredential_X7_checkRange rfl (by decide +kernel) ⟨Nat.le_of_ble_eq_true rfl, Nat.le_of_ble_eq_true rfl⟩ ⟨Nat.zero_le _, Nat.zero_le _⟩ rfl rfl (Nat.le_of_ble_eq_true rfl) dX7_renewCredential_10 ?_
      refine z_aload_n C dX7_renewCredential_13 rfl 0 rfl ?_
      refine z_get (ref := "SecretBroker") (v := .ref (a1 0)) C hX7_renewCredential_X7 0 rfl rfl 3 (by decide) kX7_renewCredential_33 (fun _ h9 => h9) rfl dX7_renewCredential_14 ?_
      refine z_iload_n C dX7_renewCredential_17 rfl 1 rfl ?_
      obtain ⟨r3, er3, hF⟩ := zbd hF
      refine z_callU (n := 1) (As := [.int x1]) (ws' := (zwX7 cI cJ cZ ab a5 a3 a6 a1 a0 B P M T K U L)) C (c_X2_isOn_1 l D cI cJ cZ a1 K x1 r3 er3) gX7_renewCredential_X2_isOn_u190X1 rfl rfl rfl rfl (by decide +kernel) ⟨Nat.le_of_ble_eq_true rfl, Nat.le_of_ble_eq_true rfl⟩ ⟨Nat.zero_le _, Nat.zero_le _⟩ 18 rfl rfl (zwB ab a5 a3 a6 a1 a0 B ++ zwX5 cI cJ cZ a5 P ++ zwX3 cI cJ cZ a3 M ++ zwX6 cI cJ cZ a6 T) (zwX0 cI cJ cZ a0 U L) rfl rfl rfl rfl (Nat.le_of_ble_eq_true rfl) dX7_renewCredential_18 ?_
      refine z_if_ne (tgt := 34) C dX7_renewCredential_21 (by decide) (fun c4 => ?_) (fun c4 => ?_)
      · have hF := zelse hF c4
        refine z_aload_n C dX7_renewCredential_34 rfl 0 rfl ?_
        refine z_get (ref := "SecretBroker") (v := .ref (a1 0)) C hX7_renewCredential_X7 0 rfl rfl 3 (by decide) kX7_renewCredential_33 (fun _ h9 => h9) rfl dX7_renewCredential_35 ?_
        refine z_iload_n C dX7_renewCredential_38 rfl 1 rfl ?_
        refine z_aload_n C dX7_renewCredential_39 rfl 0 rfl ?_
        refine z_get (ref := "SecretBroker") (v := .int (B 5 0)) C hX7_renewCredential_X7 0 rfl rfl 5 (by decide) kX7_renewCredential_44 (fun _ h9 => h9) rfl dX7_renewCredential_40 ?_
        refine z_iload_n C dX7_renewCredential_43 rfl 2 rfl ?_
        obtain ⟨r5, er5, hF⟩ := zbd hF
        refine z_callU (n := 3) (As := [.int x1, .int (B 5 0), .int x2]) (ws' := (zwX7 cI cJ cZ ab a5 a3 a6 a1 a0 B P M T r5 U L)) C (c_X2_prolong_1 l D cI cJ cZ a1 K x1 (B 5 0) x2 r5 er5) gX7_renewCredential_X2_prolong_u193X1 rfl rfl rfl rfl (by decide +kernel) ⟨Nat.le_of_ble_eq_true rfl, Nat.le_of_ble_eq_true rfl⟩ ⟨Nat.zero_le _, Nat.zero_le _⟩ 18 rfl rfl (zwB ab a5 a3 a6 a1 a0 B ++ zwX5 cI cJ cZ a5 P ++ zwX3 cI cJ cZ a3 M ++ zwX6 cI cJ cZ a6 T) (zwX0 cI cJ cZ a0 U L) rfl rfl rfl rfl (Nat.le_of_ble_eq_true rfl) dX7_renewCredential_44 ?_
        refine z_aload_n C dX7_renewCredential_47 rfl 0 rfl ?_
        refine z_get (ref := "SecretBroker") (v := .ref (a1 0)) C hX7_renewCredential_X7 0 rfl rfl 3 (by decide) kX7_renewCredential_33 (fun _ h9 => h9) rfl dX7_renewCredential_48 ?_
        refine z_iload_n C dX7_renewCredential_51 rfl 1 rfl ?_
        obtain ⟨r6, er6, hF⟩ := zbd hF
        refine z_callU (n := 1) (As := [.int x1]) (ws' := (zwX7 cI cJ cZ ab a5 a3 a6 a1 a0 B P M T r5 U L)) C (c_X2_endAt_1 l D cI cJ cZ a1 r5 x1 r6 er6) gX7_renewCredential_X2_endAt_u194X1 rfl rfl rfl rfl (by decide +kernel) ⟨Nat.le_of_ble_eq_true rfl, Nat.le_of_ble_eq_true rfl⟩ ⟨Nat.zero_le _, Nat.zero_le _⟩ 18 rfl rfl (zwB ab a5 a3 a6 a1 a0 B ++ zwX5 cI cJ cZ a5 P ++ zwX3 cI cJ cZ a3 M ++ zwX6 cI cJ cZ a6 T) (zwX0 cI cJ cZ a0 U L) rfl rfl rfl rfl (Nat.le_of_ble_eq_true rfl) dX7_renewCredential_52 ?_
        refine z_istore_n (lv' := [(3, .int r6), (0, .ref ab), (1, .int x1), (2, .int x2)]) C dX7_renewCredential_55 rfl (by decide) rfl ?_
        refine z_aload_n C dX7_renewCredential_56 rfl 1 rfl ?_
        refine z_get (ref := "SecretBroker") (v := .ref (a0 0)) C hX7_renewCredential_X7 0 rfl rfl 4 (by decide) kX7_renewCredential_40 (fun _ h9 => h9) rfl dX7_renewCredential_57 ?_
        refine z_iconst (v := 1) C dX7_renewCredential_60 (by decide) ?_
        refine z_aload_n C dX7_renewCredential_61 rfl 1 rfl ?_
        refine z_get (ref := "SecretBroker") (v := .ref (a1 0)) C hX7_renewCredential_X7 0 rfl rfl 3 (by decide) kX7_renewCredential_33 (fun _ h9 => h9) rfl dX7_renewCredential_62 ?_
        refine z_iload_n C dX7_renewCredential_65 rfl 2 rfl ?_
        obtain ⟨r7, er7, hF⟩ := zbd hF
        refine z_callV (n := 1) (As := [.int x1]) (ws' := (zwX7 cI cJ cZ ab a5 a3 a6 a1 a0 B P M T r5 U L)) C (c_X1_ownerAt l D cI cJ cZ a1 r5 x1 r7 er7) gX7_renewCredential_X1_ownerAt rfl rfl rfl (by decide +kernel) ⟨Nat.le_of_ble_eq_true rfl, Nat.le_of_ble_eq_true rfl⟩ ⟨Nat.zero_le _, Nat.zero_le _⟩ 18 rfl rfl (zwB ab a5 a3 a6 a1 a0 B ++ zwX5 cI cJ cZ a5 P ++ zwX3 cI cJ cZ a3 M ++ zwX6 cI cJ cZ a6 T) (zwX0 cI cJ cZ a0 U L) rfl rfl rfl rfl (Nat.le_of_ble_eq_true rfl) dX7_renewCredential_66 ?_
        refine z_iload_n C dX7_renewCredential_69 rfl 0 rfl ?_
        refine z_aload_n C dX7_renewCredential_70 rfl 1 rfl ?_
        refine z_get (ref := "SecretBroker") (v := .int (B 5 0)) C hX7_renewCredential_X7 0 rfl rfl 5 (by decide) kX7_renewCredential_44 (fun _ h9 => h9) rfl dX7_renewCredential_71 ?_
        obtain ⟨r8, er8, hF⟩ := zbd hF
        refine z_callV (n := 4) (As := [.int 1, .int r7, .int r6, .int (B 5 0)]) (ws' := (zwX7 cI cJ cZ ab a5 a3 a6 a1 a0 B P M T r5 r8.1 r8.2)) C (c_X0_write l D cI cJ cZ a0 U L 1 r7 r6 (B 5 0) r8 er8) gX7_renewCredential_X0_write rfl rfl rfl (by decide +kernel) ⟨Nat.le_of_ble_eq_true rfl, Nat.le_of_ble_eq_true rfl⟩ ⟨Nat.zero_le _, Nat.zero_le _⟩ 25 rfl rfl (zwB ab a5 a3 a6 a1 a0 B ++ zwX5 cI cJ cZ a5 P ++ zwX3 cI cJ cZ a3 M ++ zwX6 cI cJ cZ a6 T ++ zwX1 cI cJ cZ a1 r5) [] rfl rfl rfl rfl (Nat.le_of_ble_eq_true rfl) dX7_renewCredential_74 ?_
        refine z_iload_n C dX7_renewCredential_77 rfl 0 rfl ?_
        have hu := Option.some.inj hF
        subst hu
        exact z_xiret C dX7_renewCredential_78 rfl rfl
      · have hF := zif hF c4
        have hu := Option.some.inj hF
        subst hu
        exact z_throw (E := "java/lang/IllegalStateException") (text := "the credential is not alive") C X hl (by decide +kernel) kX7_renewCredential_52 kX7_renewCredential_95052 (by decide +kernel) (fun w h => List.mem_cons_of_mem _ (List.mem_append_left _ (List.mem_append_left _ (List.mem_append_right _ h)))) zbad_ISE X.1.2.2.1.1.1 zgood_ISE dX7_renewCredential_24 dX7_renewCredential_27 dX7_renewCredential_28 dX7_renewCredential_30 dX7_renewCredential_33 (Nat.le_of_ble_eq_true rfl) (Nat.le_of_ble_eq_true rfl)
theorem kX7_revokeBelow_33 : Cond.fieldLink RX7 33 "SecretBroker" "credentialTable" "LSecretBroker$Credentials;" ∈ wsX7_revokeBelow := by decide +kernel
theorem kX7_revokeBelow_40 : Cond.fieldLink RX7 40 "SecretBroker" "audit" "LSecretBroker$Audit;" ∈ wsX7_revokeBelow := by decide +kernel
theorem kX7_revokeBelow_44 : Cond.fieldLink RX7 44 "SecretBroker" "now" "I" ∈ wsX7_revokeBelow := by decide +kernel
theorem hX7_revokeBelow_X7 : ∀ w ∈ wsX70, w ∈ wsX7_revokeBelow := by decide +kernel
set_option maxHeartbeats 4000000 in
set_option maxRecDepth 100000 in
theorem c_X7_revokeBelow (l : Launch) (hl : l.stackTraces = false) (D : va_G) (cI cJ cZ : ClassId) (ab : Nat) (a5 : Nat → Nat) (a3 : Nat → Nat) (a6 : Nat → Nat) (a1 : Nat → Nat) (a0 : Nat → Nat) (B : SS) (P : SS) (M : SS) (T : SS) (K : SS) (U : SS) (L : SL) (x1 : Int32) (u : String ⊕ (Int32 × SS × SS × SL)) (hF : f_X7_revokeBelow B K U L x1 = some u) : zO l yX7_revokeBelow wsX7_revokeBelow 7 112 D (zTy cI cJ cZ) [.ref ab, .int x1] (zwX7 cI cJ cZ ab a5 a3 a6 a1 a0 B P M T K U L) (zo (fun (v : (Int32 × SS × SS × SL)) => ((some (.int v.1)), (zwX7 cI cJ cZ ab a5 a3 a6 a1 a0 B P M T v.2.1 v.2.2.1 v.2.2.2))) u) := by
  refine z_xbody (cc := cX7_revokeBelow) (maxL := 3) (rty := (some .int)) (own := RX7) (lv := [(0, .ref ab), (1, .int x1)]) (by decide +kernel) rfl rfl (Nat.le_of_ble_eq_true rfl) rfl (fun p e s m args below meth c A C X => ?_)
  refine z_iload_n C dX7_revokeBelow_0 rfl 1 rfl ?_
  rcases zth_some hF with ⟨Er1, er1, hE⟩ | ⟨r1, er1, hF⟩
  · subst hE
    exact z_xcallS_T (n := 1) (As := [.int x1]) C X (c_X7_checkPath l hl D cI cJ cZ x1 (.inl Er1) er1) gX7_revokeBelow_X7_checkPath rfl (by decide +kernel) ⟨Nat.le_of_ble_eq_true rfl, Nat.le_of_ble_eq_true rfl⟩ ⟨Nat.le_refl 1, Nat.le_refl 6⟩ rfl rfl (Nat.le_of_ble_eq_true rfl) dX7_revokeBelow_1
  · refine z_xcallS_R (n := 1) (As := [.int x1]) C X.1 (c_X7_checkPath l hl D cI cJ cZ x1 (.inr r1) er1) gX7_revokeBelow_X7_checkPath rfl (by decide +kernel) ⟨Nat.le_of_ble_eq_true rfl, Nat.le_of_ble_eq_true rfl⟩ ⟨Nat.zero_le _, Nat.zero_le _⟩ rfl rfl (Nat.le_of_ble_eq_true rfl) dX7_revokeBelow_1 ?_
    refine z_aload_n C dX7_revokeBelow_4 rfl 0 rfl ?_
    refine z_get (ref := "SecretBroker") (v := .ref (a1 0)) C hX7_revokeBelow_X7 0 rfl rfl 3 (by decide) kX7_revokeBelow_33 (fun _ h9 => h9) rfl dX7_revokeBelow_5 ?_
    refine z_iload_n C dX7_revokeBelow_8 rfl 1 rfl ?_
    obtain ⟨r2, er2, hF⟩ := zbd hF
    refine z_callV (n := 1) (As := [.int x1]) (ws' := (zwX7 cI cJ cZ ab a5 a3 a6 a1 a0 B P M T r2.2 U L)) C (c_X1_endBelow l D cI cJ cZ a1 K x1 r2 er2) gX7_revokeBelow_X1_endBelow rfl rfl rfl (by decide +kernel) ⟨Nat.le_of_ble_eq_true rfl, Nat.le_of_ble_eq_true rfl⟩ ⟨Nat.zero_le _, Nat.zero_le _⟩ 18 rfl rfl (zwB ab a5 a3 a6 a1 a0 B ++ zwX5 cI cJ cZ a5 P ++ zwX3 cI cJ cZ a3 M ++ zwX6 cI cJ cZ a6 T) (zwX0 cI cJ cZ a0 U L) rfl rfl rfl rfl (Nat.le_of_ble_eq_true rfl) dX7_revokeBelow_9 ?_
    refine z_istore_n (lv' := [(2, .int r2.1), (0, .ref ab), (1, .int x1)]) C dX7_revokeBelow_12 rfl (by decide) rfl ?_
    refine z_aload_n C dX7_revokeBelow_13 rfl 1 rfl ?_
    refine z_get (ref := "SecretBroker") (v := .ref (a0 0)) C hX7_revokeBelow_X7 0 rfl rfl 4 (by decide) kX7_revokeBelow_40 (fun _ h9 => h9) rfl dX7_revokeBelow_14 ?_
    refine z_iconst (v := 4) C dX7_revokeBelow_17 (by decide) ?_
    refine z_iconst (v := 0) C dX7_revokeBelow_18 (by decide) ?_
    refine z_iload_n C dX7_revokeBelow_19 rfl 0 rfl ?_
    refine z_aload_n C dX7_revokeBelow_20 rfl 1 rfl ?_
    refine z_get (ref := "SecretBroker") (v := .int (B 5 0)) C hX7_revokeBelow_X7 0 rfl rfl 5 (by decide) kX7_revokeBelow_44 (fun _ h9 => h9) rfl dX7_revokeBelow_21 ?_
    obtain ⟨r3, er3, hF⟩ := zbd hF
    refine z_callV (n := 4) (As := [.int 4, .int 0, .int r2.1, .int (B 5 0)]) (ws' := (zwX7 cI cJ cZ ab a5 a3 a6 a1 a0 B P M T r2.2 r3.1 r3.2)) C (c_X0_write l D cI cJ cZ a0 U L 4 0 r2.1 (B 5 0) r3 er3) gX7_revokeBelow_X0_write rfl rfl rfl (by decide +kernel) ⟨Nat.le_of_ble_eq_true rfl, Nat.le_of_ble_eq_true rfl⟩ ⟨Nat.zero_le _, Nat.zero_le _⟩ 25 rfl rfl (zwB ab a5 a3 a6 a1 a0 B ++ zwX5 cI cJ cZ a5 P ++ zwX3 cI cJ cZ a3 M ++ zwX6 cI cJ cZ a6 T ++ zwX1 cI cJ cZ a1 r2.2) [] rfl rfl rfl rfl (Nat.le_of_ble_eq_true rfl) dX7_revokeBelow_24 ?_
    refine z_iload_n C dX7_revokeBelow_27 rfl 0 rfl ?_
    have hu := Option.some.inj hF
    subst hu
    exact z_xiret C dX7_revokeBelow_28 rfl rfl
theorem kX7_works_33 : Cond.fieldLink RX7 33 "SecretBroker" "credentialTable" "LSecretBroker$Credentials;" ∈ wsX7_works := by decide +kernel
theorem hX7_works_X7 : ∀ w ∈ wsX70, w ∈ wsX7_works := by decide +kernel
set_option maxHeartbeats 4000000 in
set_option maxRecDepth 100000 in
theorem c_X7_works (l : Launch) (hl : l.stackTraces = false) (D : va_G) (cI cJ cZ : ClassId) (ab : Nat) (a5 : Nat → Nat) (a3 : Nat → Nat) (a6 : Nat → Nat) (a1 : Nat → Nat) (a0 : Nat → Nat) (B : SS) (P : SS) (M : SS) (T : SS) (K : SS) (U : SS) (L : SL) (x1 : Int32) (u : String ⊕ Int32) (hF : f_X7_works K x1 = some u) : zO l yX7_works wsX7_works 7 113 D (zTy cI cJ cZ) [.ref ab, .int x1] (zwX7 cI cJ cZ ab a5 a3 a6 a1 a0 B P M T K U L) (zo (fun (v : Int32) => ((some (.int v)), (zwX7 cI cJ cZ ab a5 a3 a6 a1 a0 B P M T K U L))) u) := by
  refine z_xbody (cc := cX7_works) (maxL := 2) (rty := (some .boolean)) (own := RX7) (lv := [(0, .ref ab), (1, .int x1)]) (by decide +kernel) rfl rfl (Nat.le_of_ble_eq_true rfl) rfl (fun p e s m args below meth c A C X => ?_)
  refine z_aload_n C dX7_works_0 rfl 0 rfl ?_
  refine z_iload_n C dX7_works_1 rfl 1 rfl ?_
  rcases zth_some hF with ⟨Er1, er1, hE⟩ | ⟨r1, er1, hF⟩
  · subst hE
    exact z_xcallV_T (n := 1) (As := [.int x1]) C X (c_X7_checkCredential l hl D cI cJ cZ ab a5 a3 a6 a1 a0 B P M T K U L x1 (.inl Er1) er1) gX7_works_X7_checkCredential rfl (by decide +kernel) ⟨Nat.le_of_ble_eq_true rfl, Nat.le_of_ble_eq_true rfl⟩ ⟨Nat.le_refl 1, Nat.le_refl 6⟩ 0 rfl rfl [] [] rfl rfl rfl (Nat.le_of_ble_eq_true rfl) dX7_works_2
  · refine z_xcallV_R (n := 1) (As := [.int x1]) (ws' := (zwX7 cI cJ cZ ab a5 a3 a6 a1 a0 B P M T K U L)) C X.1 (c_X7_checkCredential l hl D cI cJ cZ ab a5 a3 a6 a1 a0 B P M T K U L x1 (.inr r1) er1) gX7_works_X7_checkCredential rfl (by decide +kernel) ⟨Nat.le_of_ble_eq_true rfl, Nat.le_of_ble_eq_true rfl⟩ ⟨Nat.zero_le _, Nat.zero_le _⟩ 0 rfl rfl [] [] rfl rfl rfl rfl (Nat.le_of_ble_eq_true rfl) dX7_works_2 ?_
    refine z_aload_n C dX7_works_5 rfl 0 rfl ?_
    refine z_get (ref := "SecretBroker") (v := .ref (a1 0)) C hX7_works_X7 0 rfl rfl 3 (by decide) kX7_works_33 (fun _ h9 => h9) rfl dX7_works_6 ?_
    refine z_iload_n C dX7_works_9 rfl 1 rfl ?_
    obtain ⟨r2, er2, hF⟩ := zbd hF
    refine z_callU (n := 1) (As := [.int x1]) (ws' := (zwX7 cI cJ cZ ab a5 a3 a6 a1 a0 B P M T K U L)) C (c_X2_isOn_1 l D cI cJ cZ a1 K x1 r2 er2) gX7_works_X2_isOn_u190X1 rfl rfl rfl rfl (by decide +kernel) ⟨Nat.le_of_ble_eq_true rfl, Nat.le_of_ble_eq_true rfl⟩ ⟨Nat.zero_le _, Nat.zero_le _⟩ 18 rfl rfl (zwB ab a5 a3 a6 a1 a0 B ++ zwX5 cI cJ cZ a5 P ++ zwX3 cI cJ cZ a3 M ++ zwX6 cI cJ cZ a6 T) (zwX0 cI cJ cZ a0 U L) rfl rfl rfl rfl (Nat.le_of_ble_eq_true rfl) dX7_works_10 ?_
    obtain ⟨g3, hF⟩ := zbo_some hF
    have hu := Option.some.inj hF
    subst hu
    exact z_xiret C dX7_works_13 rfl g3
theorem kX7_endOfCredential_33 : Cond.fieldLink RX7 33 "SecretBroker" "credentialTable" "LSecretBroker$Credentials;" ∈ wsX7_endOfCredential := by decide +kernel
theorem hX7_endOfCredential_X7 : ∀ w ∈ wsX70, w ∈ wsX7_endOfCredential := by decide +kernel
set_option maxHeartbeats 4000000 in
set_option maxRecDepth 100000 in
theorem c_X7_endOfCredential (l : Launch) (hl : l.stackTraces = false) (D : va_G) (cI cJ cZ : ClassId) (ab : Nat) (a5 : Nat → Nat) (a3 : Nat → Nat) (a6 : Nat → Nat) (a1 : Nat → Nat) (a0 : Nat → Nat) (B : SS) (P : SS) (M : SS) (T : SS) (K : SS) (U : SS) (L : SL) (x1 : Int32) (u : String ⊕ Int32) (hF : f_X7_endOfCredential K x1 = some u) : zO l yX7_endOfCredential wsX7_endOfCredential 7 113 D (zTy cI cJ cZ) [.ref ab, .int x1] (zwX7 cI cJ cZ ab a5 a3 a6 a1 a0 B P M T K U L) (zo (fun (v : Int32) => ((some (.int v)), (zwX7 cI cJ cZ ab a5 a3 a6 a1 a0 B P M T K U L))) u) := by
  refine z_xbody (cc := cX7_endOfCredential) (maxL := 2) (rty := (some .int)) (own := RX7) (lv := [(0, .ref ab), (1, .int x1)]) (by decide +kernel) rfl rfl (Nat.le_of_ble_eq_true rfl) rfl (fun p e s m args below meth c A C X => ?_)
  refine z_aload_n C dX7_endOfCredential_0 rfl 0 rfl ?_
  refine z_iload_n C dX7_endOfCredential_1 rfl 1 rfl ?_
  rcases zth_some hF with ⟨Er1, er1, hE⟩ | ⟨r1, er1, hF⟩
  · subst hE
    exact z_xcallV_T (n := 1) (As := [.int x1]) C X (c_X7_checkCredential l hl D cI cJ cZ ab a5 a3 a6 a1 a0 B P M T K U L x1 (.inl Er1) er1) gX7_endOfCredential_X7_checkCredential rfl (by decide +kernel) ⟨Nat.le_of_ble_eq_true rfl, Nat.le_of_ble_eq_true rfl⟩ ⟨Nat.le_refl 1, Nat.le_refl 6⟩ 0 rfl rfl [] [] rfl rfl rfl (Nat.le_of_ble_eq_true rfl) dX7_endOfCredential_2
  · refine z_xcallV_R (n := 1) (As := [.int x1]) (ws' := (zwX7 cI cJ cZ ab a5 a3 a6 a1 a0 B P M T K U L)) C X.1 (c_X7_checkCredential l hl D cI cJ cZ ab a5 a3 a6 a1 a0 B P M T K U L x1 (.inr r1) er1) gX7_endOfCredential_X7_checkCredential rfl (by decide +kernel) ⟨Nat.le_of_ble_eq_true rfl, Nat.le_of_ble_eq_true rfl⟩ ⟨Nat.zero_le _, Nat.zero_le _⟩ 0 rfl rfl [] [] rfl rfl rfl rfl (Nat.le_of_ble_eq_true rfl) dX7_endOfCredential_2 ?_
    refine z_aload_n C dX7_endOfCredential_5 rfl 0 rfl ?_
    refine z_get (ref := "SecretBroker") (v := .ref (a1 0)) C hX7_endOfCredential_X7 0 rfl rfl 3 (by decide) kX7_endOfCredential_33 (fun _ h9 => h9) rfl dX7_endOfCredential_6 ?_
    refine z_iload_n C dX7_endOfCredential_9 rfl 1 rfl ?_
    obtain ⟨r2, er2, hF⟩ := zbd hF
    refine z_callU (n := 1) (As := [.int x1]) (ws' := (zwX7 cI cJ cZ ab a5 a3 a6 a1 a0 B P M T K U L)) C (c_X2_endAt_1 l D cI cJ cZ a1 K x1 r2 er2) gX7_endOfCredential_X2_endAt_u194X1 rfl rfl rfl rfl (by decide +kernel) ⟨Nat.le_of_ble_eq_true rfl, Nat.le_of_ble_eq_true rfl⟩ ⟨Nat.zero_le _, Nat.zero_le _⟩ 18 rfl rfl (zwB ab a5 a3 a6 a1 a0 B ++ zwX5 cI cJ cZ a5 P ++ zwX3 cI cJ cZ a3 M ++ zwX6 cI cJ cZ a6 T) (zwX0 cI cJ cZ a0 U L) rfl rfl rfl rfl (Nat.le_of_ble_eq_true rfl) dX7_endOfCredential_10 ?_
    have hu := Option.some.inj hF
    subst hu
    exact z_xiret C dX7_endOfCredential_13 rfl rfl
theorem kX7_credentials_33 : Cond.fieldLink RX7 33 "SecretBroker" "credentialTable" "LSecretBroker$Credentials;" ∈ wsX7_credentials := by decide +kernel
theorem hX7_credentials_X7 : ∀ w ∈ wsX70, w ∈ wsX7_credentials := by decide +kernel
set_option maxHeartbeats 4000000 in
set_option maxRecDepth 100000 in
theorem c_X7_credentials (l : Launch) (D : va_G) (cI cJ cZ : ClassId) (ab : Nat) (a5 : Nat → Nat) (a3 : Nat → Nat) (a6 : Nat → Nat) (a1 : Nat → Nat) (a0 : Nat → Nat) (B : SS) (P : SS) (M : SS) (T : SS) (K : SS) (U : SS) (L : SL) (u : Int32) (hF : f_X7_credentials K = some u) : zM l yX7_credentials wsX7_credentials ({ frames := 1, cells := 0, slots := 0, locals := 20 }) D (zTy cI cJ cZ) [.ref ab] (zwX7 cI cJ cZ ab a5 a3 a6 a1 a0 B P M T K U L) (some (.int u)) (zwX7 cI cJ cZ ab a5 a3 a6 a1 a0 B P M T K U L) := by
  refine z_body (cc := cX7_credentials) (maxL := 1) (rty := (some .int)) (own := RX7) (lv := [(0, .ref ab)]) (by decide +kernel) rfl rfl (Nat.le_of_ble_eq_true rfl) rfl (fun p e s m args below meth c A C => ?_)
  refine z_aload_n C dX7_credentials_0 rfl 0 rfl ?_
  refine z_get (ref := "SecretBroker") (v := .ref (a1 0)) C hX7_credentials_X7 0 rfl rfl 3 (by decide) kX7_credentials_33 (fun _ h9 => h9) rfl dX7_credentials_1 ?_
  obtain ⟨r1, er1, hF⟩ := zbd hF
  refine z_callU (n := 0) (As := []) (ws' := (zwX7 cI cJ cZ ab a5 a3 a6 a1 a0 B P M T K U L)) C (c_X2_living_1 l D cI cJ cZ a1 K r1 er1) gX7_credentials_X2_living_u177X1 rfl rfl rfl rfl (by decide +kernel) ⟨Nat.le_of_ble_eq_true rfl, Nat.le_of_ble_eq_true rfl⟩ ⟨Nat.zero_le _, Nat.zero_le _⟩ 18 rfl rfl (zwB ab a5 a3 a6 a1 a0 B ++ zwX5 cI cJ cZ a5 P ++ zwX3 cI cJ cZ a3 M ++ zwX6 cI cJ cZ a6 T) (zwX0 cI cJ cZ a0 U L) rfl rfl rfl rfl (Nat.le_of_ble_eq_true rfl) dX7_credentials_4 ?_
  have hu := Option.some.inj hF
  subst hu
  exact z_iret C dX7_credentials_7 rfl rfl
theorem kX7_credentialsOf_33 : Cond.fieldLink RX7 33 "SecretBroker" "credentialTable" "LSecretBroker$Credentials;" ∈ wsX7_credentialsOf := by decide +kernel
theorem hX7_credentialsOf_X7 : ∀ w ∈ wsX70, w ∈ wsX7_credentialsOf := by decide +kernel
set_option maxHeartbeats 4000000 in
set_option maxRecDepth 100000 in
theorem c_X7_credentialsOf (l : Launch) (hl : l.stackTraces = false) (D : va_G) (cI cJ cZ : ClassId) (ab : Nat) (a5 : Nat → Nat) (a3 : Nat → Nat) (a6 : Nat → Nat) (a1 : Nat → Nat) (a0 : Nat → Nat) (B : SS) (P : SS) (M : SS) (T : SS) (K : SS) (U : SS) (L : SL) (x1 : Int32) (u : String ⊕ Int32) (hF : f_X7_credentialsOf T K x1 = some u) : zO l yX7_credentialsOf wsX7_credentialsOf 7 113 D (zTy cI cJ cZ) [.ref ab, .int x1] (zwX7 cI cJ cZ ab a5 a3 a6 a1 a0 B P M T K U L) (zo (fun (v : Int32) => ((some (.int v)), (zwX7 cI cJ cZ ab a5 a3 a6 a1 a0 B P M T K U L))) u) := by
  refine z_xbody (cc := cX7_credentialsOf) (maxL := 2) (rty := (some .int)) (own := RX7) (lv := [(0, .ref ab), (1, .int x1)]) (by decide +kernel) rfl rfl (Nat.le_of_ble_eq_true rfl) rfl (fun p e s m args below meth c A C X => ?_)
  refine z_aload_n C dX7_credentialsOf_0 rfl 0 rfl ?_
  refine z_iload_n C dX7_credentialsOf_1 rfl 1 rfl ?_
  rcases zth_some hF with ⟨Er1, er1, hE⟩ | ⟨r1, er1, hF⟩
  · subst hE
    exact z_xcallV_T (n := 1) (As := [.int x1]) C X (c_X7_checkToken l hl D cI cJ cZ ab a5 a3 a6 a1 a0 B P M T K U L x1 (.inl Er1) er1) gX7_credentialsOf_X7_checkToken rfl (by decide +kernel) ⟨Nat.le_of_ble_eq_true rfl, Nat.le_of_ble_eq_true rfl⟩ ⟨Nat.le_refl 1, Nat.le_refl 6⟩ 0 rfl rfl [] [] rfl rfl rfl (Nat.le_of_ble_eq_true rfl) dX7_credentialsOf_2
  · refine z_xcallV_R (n := 1) (As := [.int x1]) (ws' := (zwX7 cI cJ cZ ab a5 a3 a6 a1 a0 B P M T K U L)) C X.1 (c_X7_checkToken l hl D cI cJ cZ ab a5 a3 a6 a1 a0 B P M T K U L x1 (.inr r1) er1) gX7_credentialsOf_X7_checkToken rfl (by decide +kernel) ⟨Nat.le_of_ble_eq_true rfl, Nat.le_of_ble_eq_true rfl⟩ ⟨Nat.zero_le _, Nat.zero_le _⟩ 0 rfl rfl [] [] rfl rfl rfl rfl (Nat.le_of_ble_eq_true rfl) dX7_credentialsOf_2 ?_
    refine z_aload_n C dX7_credentialsOf_5 rfl 0 rfl ?_
    refine z_get (ref := "SecretBroker") (v := .ref (a1 0)) C hX7_credentialsOf_X7 0 rfl rfl 3 (by decide) kX7_credentialsOf_33 (fun _ h9 => h9) rfl dX7_credentialsOf_6 ?_
    refine z_iload_n C dX7_credentialsOf_9 rfl 1 rfl ?_
    obtain ⟨r2, er2, hF⟩ := zbd hF
    refine z_callV (n := 1) (As := [.int x1]) (ws' := (zwX7 cI cJ cZ ab a5 a3 a6 a1 a0 B P M T K U L)) C (c_X1_livingOf l D cI cJ cZ a1 K x1 r2 er2) gX7_credentialsOf_X1_livingOf rfl rfl rfl (by decide +kernel) ⟨Nat.le_of_ble_eq_true rfl, Nat.le_of_ble_eq_true rfl⟩ ⟨Nat.zero_le _, Nat.zero_le _⟩ 18 rfl rfl (zwB ab a5 a3 a6 a1 a0 B ++ zwX5 cI cJ cZ a5 P ++ zwX3 cI cJ cZ a3 M ++ zwX6 cI cJ cZ a6 T) (zwX0 cI cJ cZ a0 U L) rfl rfl rfl rfl (Nat.le_of_ble_eq_true rfl) dX7_credentialsOf_10 ?_
    have hu := Option.some.inj hF
    subst hu
    exact z_xiret C dX7_credentialsOf_13 rfl rfl
theorem kX7_pass_44 : Cond.fieldLink RX7 44 "SecretBroker" "now" "I" ∈ wsX7_pass := by decide +kernel
theorem kX7_pass_26 : Cond.fieldLink RX7 26 "SecretBroker" "tokenTable" "LSecretBroker$Tokens;" ∈ wsX7_pass := by decide +kernel
theorem kX7_pass_33 : Cond.fieldLink RX7 33 "SecretBroker" "credentialTable" "LSecretBroker$Credentials;" ∈ wsX7_pass := by decide +kernel
theorem kX7_pass_40 : Cond.fieldLink RX7 40 "SecretBroker" "audit" "LSecretBroker$Audit;" ∈ wsX7_pass := by decide +kernel
theorem hX7_pass_X7 : ∀ w ∈ wsX70, w ∈ wsX7_pass := by decide +kernel
set_option maxHeartbeats 4000000 in
set_option maxRecDepth 100000 in
theorem c_X7_pass (l : Launch) (hl : l.stackTraces = false) (D : va_G) (cI cJ cZ : ClassId) (ab : Nat) (a5 : Nat → Nat) (a3 : Nat → Nat) (a6 : Nat → Nat) (a1 : Nat → Nat) (a0 : Nat → Nat) (B : SS) (P : SS) (M : SS) (T : SS) (K : SS) (U : SS) (L : SL) (x1 : Int32) (u : String ⊕ (Int32 × SS × SS × SS × SS × SL)) (hF : f_X7_pass B T K U L x1 = some u) : zO l yX7_pass wsX7_pass 7 114 D (zTy cI cJ cZ) [.ref ab, .int x1] (zwX7 cI cJ cZ ab a5 a3 a6 a1 a0 B P M T K U L) (zo (fun (v : (Int32 × SS × SS × SS × SS × SL)) => ((some (.int v.1)), (zwX7 cI cJ cZ ab a5 a3 a6 a1 a0 v.2.1 P M v.2.2.1 v.2.2.2.1 v.2.2.2.2.1 v.2.2.2.2.2))) u) := by
  refine z_xbody (cc := cX7_pass) (maxL := 3) (rty := (some .int)) (own := RX7) (lv := [(0, .ref ab), (1, .int x1)]) (by decide +kernel) rfl rfl (Nat.le_of_ble_eq_true rfl) rfl (fun p e s m args below meth c A C X => ?_)
  refine z_iload_n C dX7_pass_0 rfl 1 rfl ?_
  refine z_iconst (v := 1) C dX7_pass_1 (by decide) ?_
  refine z_sipush (v := 1000) C dX7_pass_2 (by decide) ?_
  rcases zth_some hF with ⟨Er1, er1, hE⟩ | ⟨r1, er1, hF⟩
  · subst hE
    exact z_xcallS_T (n := 3) (As := [.int x1, .int 1, .int 1000]) C X (c_X7_checkRange l hl D cI cJ cZ x1 1 1000 (.inl Er1) er1) gX7_pass_X7_checkRange rfl (by decide +kernel) ⟨Nat.le_of_ble_eq_true rfl, Nat.le_of_ble_eq_true rfl⟩ ⟨Nat.le_refl 1, Nat.le_refl 6⟩ rfl rfl (Nat.le_of_ble_eq_true rfl) dX7_pass_5
  · refine z_xcallS_R (n := 3) (As := [.int x1, .int 1, .int 1000]) C X.1 (c_X7_checkRange l hl D cI cJ cZ x1 1 1000 (.inr r1) er1) gX7_pass_X7_checkRange rfl (by decide +kernel) ⟨Nat.le_of_ble_eq_true rfl, Nat.le_of_ble_eq_true rfl⟩ ⟨Nat.zero_le _, Nat.zero_le _⟩ rfl rfl (Nat.le_of_ble_eq_true rfl) dX7_pass_5 ?_
    refine z_aload_n C dX7_pass_8 rfl 0 rfl ?_
    refine z_dup C dX7_pass_9 rfl ?_
    refine z_get (ref := "SecretBroker") (v := .int (B 5 0)) C hX7_pass_X7 0 rfl rfl 5 (by decide) kX7_pass_44 (fun _ h9 => h9) rfl dX7_pass_10 ?_
    refine z_iload_n C dX7_pass_13 rfl 1 rfl ?_
    refine z_iadd C dX7_pass_14 ?_
    refine z_put (ws' := (zwX7 cI cJ cZ ab a5 a3 a6 a1 a0 (zs B 5 ((B 5 0) + x1)) P M T K U L)) (ref := "SecretBroker") (ty := .int) C hX7_pass_X7 tyX7 tyX7_ok nmX7 0 rfl rfl 5 (by decide) kX7_pass_44 (fun _ h9 => h9) rfl (by decide +kernel) rfl rfl (Nat.le_of_ble_eq_true rfl) dX7_pass_15 (zs_val B 5 ((B 5 0) + x1)) (zf_X7_5 cI cJ cZ ab a5 a3 a6 a1 a0 B P M T K U L ((B 5 0) + x1)) ?_
    refine z_aload_n C dX7_pass_18 rfl 0 rfl ?_
    refine z_get (ref := "SecretBroker") (v := .ref (a6 0)) C hX7_pass_X7 0 rfl rfl 2 (by decide) kX7_pass_26 (fun _ h9 => h9) rfl dX7_pass_19 ?_
    refine z_aload_n C dX7_pass_22 rfl 0 rfl ?_
    refine z_get (ref := "SecretBroker") (v := .int ((zs B 5 ((B 5 0) + x1)) 5 0)) C hX7_pass_X7 0 rfl rfl 5 (by decide) kX7_pass_44 (fun _ h9 => h9) rfl dX7_pass_23 ?_
    obtain ⟨r2, er2, hF⟩ := zbd hF
    refine z_callU (n := 1) (As := [.int ((zs B 5 ((B 5 0) + x1)) 5 0)]) (ws' := (zwX7 cI cJ cZ ab a5 a3 a6 a1 a0 (zs B 5 ((B 5 0) + x1)) P M r2.2 K U L)) C (c_X2_endByTime_6 l D cI cJ cZ a6 T ((zs B 5 ((B 5 0) + x1)) 5 0) r2 er2) gX7_pass_X2_endByTime_u204X6 rfl rfl rfl rfl (by decide +kernel) ⟨Nat.le_of_ble_eq_true rfl, Nat.le_of_ble_eq_true rfl⟩ ⟨Nat.zero_le _, Nat.zero_le _⟩ 10 rfl rfl (zwB ab a5 a3 a6 a1 a0 (zs B 5 ((B 5 0) + x1)) ++ zwX5 cI cJ cZ a5 P ++ zwX3 cI cJ cZ a3 M) (zwX1 cI cJ cZ a1 K ++ zwX0 cI cJ cZ a0 U L) rfl rfl rfl rfl (Nat.le_of_ble_eq_true rfl) dX7_pass_26 ?_
    refine z_aload_n C dX7_pass_29 rfl 0 rfl ?_
    refine z_get (ref := "SecretBroker") (v := .ref (a1 0)) C hX7_pass_X7 0 rfl rfl 3 (by decide) kX7_pass_33 (fun _ h9 => h9) rfl dX7_pass_30 ?_
    refine z_aload_n C dX7_pass_33 rfl 0 rfl ?_
    refine z_get (ref := "SecretBroker") (v := .int ((zs B 5 ((B 5 0) + x1)) 5 0)) C hX7_pass_X7 0 rfl rfl 5 (by decide) kX7_pass_44 (fun _ h9 => h9) rfl dX7_pass_34 ?_
    obtain ⟨r3, er3, hF⟩ := zbd hF
    refine z_callU (n := 1) (As := [.int ((zs B 5 ((B 5 0) + x1)) 5 0)]) (ws' := (zwX7 cI cJ cZ ab a5 a3 a6 a1 a0 (zs B 5 ((B 5 0) + x1)) P M r2.2 r3.2 U L)) C (c_X2_endByTime_1 l D cI cJ cZ a1 K ((zs B 5 ((B 5 0) + x1)) 5 0) r3 er3) gX7_pass_X2_endByTime_u207X1 rfl rfl rfl rfl (by decide +kernel) ⟨Nat.le_of_ble_eq_true rfl, Nat.le_of_ble_eq_true rfl⟩ ⟨Nat.zero_le _, Nat.zero_le _⟩ 18 rfl rfl (zwB ab a5 a3 a6 a1 a0 (zs B 5 ((B 5 0) + x1)) ++ zwX5 cI cJ cZ a5 P ++ zwX3 cI cJ cZ a3 M ++ zwX6 cI cJ cZ a6 r2.2) (zwX0 cI cJ cZ a0 U L) rfl rfl rfl rfl (Nat.le_of_ble_eq_true rfl) dX7_pass_37 ?_
    refine z_iadd C dX7_pass_40 ?_
    refine z_istore_n (lv' := [(2, .int (r2.1 + r3.1)), (0, .ref ab), (1, .int x1)]) C dX7_pass_41 rfl (by decide) rfl ?_
    refine z_iload_n C dX7_pass_42 rfl 0 rfl ?_
    refine z_aload_n C dX7_pass_43 rfl 1 rfl ?_
    obtain ⟨r4, er4, hF⟩ := zbd hF
    refine z_callV (n := 0) (As := []) (ws' := (zwX7 cI cJ cZ ab a5 a3 a6 a1 a0 (zs B 5 ((B 5 0) + x1)) P M r4.2.1 r4.2.2 U L)) C (c_X7_endWhatHungOnTokens l D cI cJ cZ ab a5 a3 a6 a1 a0 (zs B 5 ((B 5 0) + x1)) P M r2.2 r3.2 U L r4 er4) gX7_pass_X7_endWhatHungOnTokens rfl rfl rfl (by decide +kernel) ⟨Nat.le_of_ble_eq_true rfl, Nat.le_of_ble_eq_true rfl⟩ ⟨Nat.zero_le _, Nat.zero_le _⟩ 0 rfl rfl [] [] rfl rfl rfl rfl (Nat.le_of_ble_eq_true rfl) dX7_pass_44 ?_
    refine z_iadd C dX7_pass_47 ?_
    refine z_istore_n (lv' := [(2, .int ((r2.1 + r3.1) + r4.1)), (0, .ref ab), (1, .int x1)]) C dX7_pass_48 rfl (by decide) rfl ?_
    refine z_iload_n C dX7_pass_49 rfl 0 rfl ?_
    refine z_if_le (tgt := 67) C dX7_pass_50 (by decide) (fun c5 => ?_) (fun c5 => ?_)
    · have hF := zif hF c5
      refine z_iload_n C dX7_pass_67 rfl 0 rfl ?_
      have hu := Option.some.inj hF
      subst hu
      exact z_xiret C dX7_pass_68 rfl rfl
    · have hF := zelse hF c5
      refine z_aload_n C dX7_pass_53 rfl 1 rfl ?_
      refine z_get (ref := "SecretBroker") (v := .ref (a0 0)) C hX7_pass_X7 0 rfl rfl 4 (by decide) kX7_pass_40 (fun _ h9 => h9) rfl dX7_pass_54 ?_
      refine z_iconst (v := 5) C dX7_pass_57 (by decide) ?_
      refine z_iconst (v := 0) C dX7_pass_58 (by decide) ?_
      refine z_iload_n C dX7_pass_59 rfl 0 rfl ?_
      refine z_aload_n C dX7_pass_60 rfl 1 rfl ?_
      refine z_get (ref := "SecretBroker") (v := .int ((zs B 5 ((B 5 0) + x1)) 5 0)) C hX7_pass_X7 0 rfl rfl 5 (by decide) kX7_pass_44 (fun _ h9 => h9) rfl dX7_pass_61 ?_
      obtain ⟨r6, er6, hF⟩ := zbd hF
      refine z_callV (n := 4) (As := [.int 5, .int 0, .int ((r2.1 + r3.1) + r4.1), .int ((zs B 5 ((B 5 0) + x1)) 5 0)]) (ws' := (zwX7 cI cJ cZ ab a5 a3 a6 a1 a0 (zs B 5 ((B 5 0) + x1)) P M r4.2.1 r4.2.2 r6.1 r6.2)) C (c_X0_write l D cI cJ cZ a0 U L 5 0 ((r2.1 + r3.1) + r4.1) ((zs B 5 ((B 5 0) + x1)) 5 0) r6 er6) gX7_pass_X0_write rfl rfl rfl (by decide +kernel) ⟨Nat.le_of_ble_eq_true rfl, Nat.le_of_ble_eq_true rfl⟩ ⟨Nat.zero_le _, Nat.zero_le _⟩ 25 rfl rfl (zwB ab a5 a3 a6 a1 a0 (zs B 5 ((B 5 0) + x1)) ++ zwX5 cI cJ cZ a5 P ++ zwX3 cI cJ cZ a3 M ++ zwX6 cI cJ cZ a6 r4.2.1 ++ zwX1 cI cJ cZ a1 r4.2.2) [] rfl rfl rfl rfl (Nat.le_of_ble_eq_true rfl) dX7_pass_64 ?_
      refine z_iload_n C dX7_pass_67 rfl 0 rfl ?_
      have hu := Option.some.inj hF
      subst hu
      exact z_xiret C dX7_pass_68 rfl rfl
theorem kX7_time_44 : Cond.fieldLink RX7 44 "SecretBroker" "now" "I" ∈ wsX7_time := by decide +kernel
theorem hX7_time_X7 : ∀ w ∈ wsX70, w ∈ wsX7_time := by decide +kernel
set_option maxHeartbeats 4000000 in
set_option maxRecDepth 100000 in
theorem c_X7_time (l : Launch) (D : va_G) (cI cJ cZ : ClassId) (ab : Nat) (a5 : Nat → Nat) (a3 : Nat → Nat) (a6 : Nat → Nat) (a1 : Nat → Nat) (a0 : Nat → Nat) (B : SS) (P : SS) (M : SS) (T : SS) (K : SS) (U : SS) (L : SL) (u : Int32) (hF : f_X7_time B = some u) : zM l yX7_time wsX7_time ({ frames := 0, cells := 0, slots := 0, locals := 0 }) D (zTy cI cJ cZ) [.ref ab] (zwX7 cI cJ cZ ab a5 a3 a6 a1 a0 B P M T K U L) (some (.int u)) (zwX7 cI cJ cZ ab a5 a3 a6 a1 a0 B P M T K U L) := by
  refine z_body (cc := cX7_time) (maxL := 1) (rty := (some .int)) (own := RX7) (lv := [(0, .ref ab)]) (by decide +kernel) rfl rfl (Nat.le_of_ble_eq_true rfl) rfl (fun p e s m args below meth c A C => ?_)
  refine z_aload_n C dX7_time_0 rfl 0 rfl ?_
  refine z_get (ref := "SecretBroker") (v := .int (B 5 0)) C hX7_time_X7 0 rfl rfl 5 (by decide) kX7_time_44 (fun _ h9 => h9) rfl dX7_time_1 ?_
  have hu := Option.some.inj hF
  subst hu
  exact z_iret C dX7_time_4 rfl rfl
theorem kX7_nextEnd_26 : Cond.fieldLink RX7 26 "SecretBroker" "tokenTable" "LSecretBroker$Tokens;" ∈ wsX7_nextEnd := by decide +kernel
theorem kX7_nextEnd_33 : Cond.fieldLink RX7 33 "SecretBroker" "credentialTable" "LSecretBroker$Credentials;" ∈ wsX7_nextEnd := by decide +kernel
theorem kX7_nextEnd_215 : Cond.methodLink RX7 215 Lib.Math.max.name ∈ wsX7_nextEnd := by decide +kernel
theorem kX7_nextEnd_90001 : Cond.static Lib.Math.max.name ∈ wsX7_nextEnd := by decide +kernel
theorem kX7_nextEnd_90002 : Cond.initialized "java/lang/Math" ∈ wsX7_nextEnd := by decide +kernel
theorem kX7_nextEnd_90005 : Cond.code Lib.Math.max.name Lib.Math.max.code 2 (some .int) ∈ wsX7_nextEnd := by decide +kernel
theorem kX7_nextEnd_220 : Cond.methodLink RX7 220 Lib.Math.min.name ∈ wsX7_nextEnd := by decide +kernel
theorem kX7_nextEnd_90000 : Cond.static Lib.Math.min.name ∈ wsX7_nextEnd := by decide +kernel
theorem kX7_nextEnd_90004 : Cond.code Lib.Math.min.name Lib.Math.min.code 2 (some .int) ∈ wsX7_nextEnd := by decide +kernel
theorem hX7_nextEnd_X7 : ∀ w ∈ wsX70, w ∈ wsX7_nextEnd := by decide +kernel
set_option maxHeartbeats 4000000 in
set_option maxRecDepth 100000 in
theorem c_X7_nextEnd (l : Launch) (D : va_G) (cI cJ cZ : ClassId) (ab : Nat) (a5 : Nat → Nat) (a3 : Nat → Nat) (a6 : Nat → Nat) (a1 : Nat → Nat) (a0 : Nat → Nat) (B : SS) (P : SS) (M : SS) (T : SS) (K : SS) (U : SS) (L : SL) (u : Int32) (hF : f_X7_nextEnd T K = some u) : zM l yX7_nextEnd wsX7_nextEnd ({ frames := 1, cells := 0, slots := 0, locals := 22 }) D (zTy cI cJ cZ) [.ref ab] (zwX7 cI cJ cZ ab a5 a3 a6 a1 a0 B P M T K U L) (some (.int u)) (zwX7 cI cJ cZ ab a5 a3 a6 a1 a0 B P M T K U L) := by
  refine z_body (cc := cX7_nextEnd) (maxL := 3) (rty := (some .int)) (own := RX7) (lv := [(0, .ref ab)]) (by decide +kernel) rfl rfl (Nat.le_of_ble_eq_true rfl) rfl (fun p e s m args below meth c A C => ?_)
  refine z_aload_n C dX7_nextEnd_0 rfl 0 rfl ?_
  refine z_get (ref := "SecretBroker") (v := .ref (a6 0)) C hX7_nextEnd_X7 0 rfl rfl 2 (by decide) kX7_nextEnd_26 (fun _ h9 => h9) rfl dX7_nextEnd_1 ?_
  obtain ⟨r1, er1, hF⟩ := zbd hF
  refine z_callU (n := 0) (As := []) (ws' := (zwX7 cI cJ cZ ab a5 a3 a6 a1 a0 B P M T K U L)) C (c_X2_firstEnd_6 l D cI cJ cZ a6 T r1 er1) gX7_nextEnd_X2_firstEnd_u211X6 rfl rfl rfl rfl (by decide +kernel) ⟨Nat.le_of_ble_eq_true rfl, Nat.le_of_ble_eq_true rfl⟩ ⟨Nat.zero_le _, Nat.zero_le _⟩ 10 rfl rfl (zwB ab a5 a3 a6 a1 a0 B ++ zwX5 cI cJ cZ a5 P ++ zwX3 cI cJ cZ a3 M) (zwX1 cI cJ cZ a1 K ++ zwX0 cI cJ cZ a0 U L) rfl rfl rfl rfl (Nat.le_of_ble_eq_true rfl) dX7_nextEnd_4 ?_
  refine z_istore_n (lv' := [(1, .int r1), (0, .ref ab)]) C dX7_nextEnd_7 rfl (by decide) rfl ?_
  refine z_aload_n C dX7_nextEnd_8 rfl 1 rfl ?_
  refine z_get (ref := "SecretBroker") (v := .ref (a1 0)) C hX7_nextEnd_X7 0 rfl rfl 3 (by decide) kX7_nextEnd_33 (fun _ h9 => h9) rfl dX7_nextEnd_9 ?_
  obtain ⟨r2, er2, hF⟩ := zbd hF
  refine z_callU (n := 0) (As := []) (ws' := (zwX7 cI cJ cZ ab a5 a3 a6 a1 a0 B P M T K U L)) C (c_X2_firstEnd_1 l D cI cJ cZ a1 K r2 er2) gX7_nextEnd_X2_firstEnd_u214X1 rfl rfl rfl rfl (by decide +kernel) ⟨Nat.le_of_ble_eq_true rfl, Nat.le_of_ble_eq_true rfl⟩ ⟨Nat.zero_le _, Nat.zero_le _⟩ 18 rfl rfl (zwB ab a5 a3 a6 a1 a0 B ++ zwX5 cI cJ cZ a5 P ++ zwX3 cI cJ cZ a3 M ++ zwX6 cI cJ cZ a6 T) (zwX0 cI cJ cZ a0 U L) rfl rfl rfl rfl (Nat.le_of_ble_eq_true rfl) dX7_nextEnd_12 ?_
  refine z_istore_n (lv' := [(2, .int r2), (1, .int r1), (0, .ref ab)]) C dX7_nextEnd_15 rfl (by decide) rfl ?_
  refine z_iload_n C dX7_nextEnd_16 rfl 1 rfl ?_
  refine z_iconst (v := (-1)) C dX7_nextEnd_17 (by decide) ?_
  refine z_icmp_eq (tgt := 26) C dX7_nextEnd_18 (by decide) (fun c3 => ?_) (fun c3 => ?_)
  · have hF := zif hF c3
    refine z_iload_n C dX7_nextEnd_26 rfl 1 rfl ?_
    refine z_iload_n C dX7_nextEnd_27 rfl 0 rfl ?_
    refine z_mmax C kX7_nextEnd_215 kX7_nextEnd_90001 kX7_nextEnd_90002 kX7_nextEnd_90005 (Nat.le_of_ble_eq_true rfl) (Nat.le_of_ble_eq_true rfl) ⟨Nat.zero_le _, Nat.zero_le _⟩ dX7_nextEnd_28 ?_
    have hu := Option.some.inj hF
    subst hu
    exact z_iret C dX7_nextEnd_31 rfl rfl
  · have hF := zelse hF c3
    refine z_iload_n C dX7_nextEnd_21 rfl 0 rfl ?_
    refine z_iconst (v := (-1)) C dX7_nextEnd_22 (by decide) ?_
    refine z_icmp_ne (tgt := 32) C dX7_nextEnd_23 (by decide) (fun c4 => ?_) (fun c4 => ?_)
    · have hF := zelse hF c4
      refine z_iload_n C dX7_nextEnd_32 rfl 1 rfl ?_
      refine z_iload_n C dX7_nextEnd_33 rfl 0 rfl ?_
      refine z_mmin C kX7_nextEnd_220 kX7_nextEnd_90000 kX7_nextEnd_90002 kX7_nextEnd_90004 (Nat.le_of_ble_eq_true rfl) (Nat.le_of_ble_eq_true rfl) ⟨Nat.zero_le _, Nat.zero_le _⟩ dX7_nextEnd_34 ?_
      have hu := Option.some.inj hF
      subst hu
      exact z_iret C dX7_nextEnd_37 rfl rfl
    · have hF := zif hF c4
      refine z_iload_n C dX7_nextEnd_26 rfl 1 rfl ?_
      refine z_iload_n C dX7_nextEnd_27 rfl 0 rfl ?_
      refine z_mmax C kX7_nextEnd_215 kX7_nextEnd_90001 kX7_nextEnd_90002 kX7_nextEnd_90005 (Nat.le_of_ble_eq_true rfl) (Nat.le_of_ble_eq_true rfl) ⟨Nat.zero_le _, Nat.zero_le _⟩ dX7_nextEnd_28 ?_
      have hu := Option.some.inj hF
      subst hu
      exact z_iret C dX7_nextEnd_31 rfl rfl
theorem kX7_entries_40 : Cond.fieldLink RX7 40 "SecretBroker" "audit" "LSecretBroker$Audit;" ∈ wsX7_entries := by decide +kernel
theorem hX7_entries_X7 : ∀ w ∈ wsX70, w ∈ wsX7_entries := by decide +kernel
set_option maxHeartbeats 4000000 in
set_option maxRecDepth 100000 in
theorem c_X7_entries (l : Launch) (D : va_G) (cI cJ cZ : ClassId) (ab : Nat) (a5 : Nat → Nat) (a3 : Nat → Nat) (a6 : Nat → Nat) (a1 : Nat → Nat) (a0 : Nat → Nat) (B : SS) (P : SS) (M : SS) (T : SS) (K : SS) (U : SS) (L : SL) (u : Int32) (hF : f_X7_entries U = some u) : zM l yX7_entries wsX7_entries ({ frames := 1, cells := 0, slots := 0, locals := 20 }) D (zTy cI cJ cZ) [.ref ab] (zwX7 cI cJ cZ ab a5 a3 a6 a1 a0 B P M T K U L) (some (.int u)) (zwX7 cI cJ cZ ab a5 a3 a6 a1 a0 B P M T K U L) := by
  refine z_body (cc := cX7_entries) (maxL := 1) (rty := (some .int)) (own := RX7) (lv := [(0, .ref ab)]) (by decide +kernel) rfl rfl (Nat.le_of_ble_eq_true rfl) rfl (fun p e s m args below meth c A C => ?_)
  refine z_aload_n C dX7_entries_0 rfl 0 rfl ?_
  refine z_get (ref := "SecretBroker") (v := .ref (a0 0)) C hX7_entries_X7 0 rfl rfl 4 (by decide) kX7_entries_40 (fun _ h9 => h9) rfl dX7_entries_1 ?_
  obtain ⟨r1, er1, hF⟩ := zbd hF
  refine z_callV (n := 0) (As := []) (ws' := (zwX7 cI cJ cZ ab a5 a3 a6 a1 a0 B P M T K U L)) C (c_X0_count l D cI cJ cZ a0 U L r1 er1) gX7_entries_X0_count rfl rfl rfl (by decide +kernel) ⟨Nat.le_of_ble_eq_true rfl, Nat.le_of_ble_eq_true rfl⟩ ⟨Nat.zero_le _, Nat.zero_le _⟩ 25 rfl rfl (zwB ab a5 a3 a6 a1 a0 B ++ zwX5 cI cJ cZ a5 P ++ zwX3 cI cJ cZ a3 M ++ zwX6 cI cJ cZ a6 T ++ zwX1 cI cJ cZ a1 K) [] rfl rfl rfl rfl (Nat.le_of_ble_eq_true rfl) dX7_entries_4 ?_
  have hu := Option.some.inj hF
  subst hu
  exact z_iret C dX7_entries_7 rfl rfl
theorem kX7_checkEntry_40 : Cond.fieldLink RX7 40 "SecretBroker" "audit" "LSecretBroker$Audit;" ∈ wsX7_checkEntry := by decide +kernel
theorem kX7_checkEntry_243 : Cond.classLink RX7 243 "java/lang/IndexOutOfBoundsException" ∈ wsX7_checkEntry := by decide +kernel
theorem kX7_checkEntry_95243 : Cond.initialized "java/lang/IndexOutOfBoundsException" ∈ wsX7_checkEntry := by decide +kernel
theorem hX7_checkEntry_X7 : ∀ w ∈ wsX70, w ∈ wsX7_checkEntry := by decide +kernel
set_option maxHeartbeats 4000000 in
set_option maxRecDepth 100000 in
theorem c_X7_checkEntry (l : Launch) (hl : l.stackTraces = false) (D : va_G) (cI cJ cZ : ClassId) (ab : Nat) (a5 : Nat → Nat) (a3 : Nat → Nat) (a6 : Nat → Nat) (a1 : Nat → Nat) (a0 : Nat → Nat) (B : SS) (P : SS) (M : SS) (T : SS) (K : SS) (U : SS) (L : SL) (x1 : Int32) (u : String ⊕ Unit) (hF : f_X7_checkEntry U x1 = some u) : zO l yX7_checkEntry wsX7_checkEntry 6 92 D (zTy cI cJ cZ) [.ref ab, .int x1] (zwX7 cI cJ cZ ab a5 a3 a6 a1 a0 B P M T K U L) (zo (fun (v : Unit) => (none, (zwX7 cI cJ cZ ab a5 a3 a6 a1 a0 B P M T K U L))) u) := by
  refine z_xbody (cc := cX7_checkEntry) (maxL := 2) (rty := none) (own := RX7) (lv := [(0, .ref ab), (1, .int x1)]) (by decide +kernel) rfl rfl (Nat.le_of_ble_eq_true rfl) rfl (fun p e s m args below meth c A C X => ?_)
  refine z_aload_n C dX7_checkEntry_0 rfl 0 rfl ?_
  refine z_get (ref := "SecretBroker") (v := .ref (a0 0)) C hX7_checkEntry_X7 0 rfl rfl 4 (by decide) kX7_checkEntry_40 (fun _ h9 => h9) rfl dX7_checkEntry_1 ?_
  refine z_iload_n C dX7_checkEntry_4 rfl 1 rfl ?_
  obtain ⟨r1, er1, hF⟩ := zbd hF
  refine z_callV (n := 1) (As := [.int x1]) (ws' := (zwX7 cI cJ cZ ab a5 a3 a6 a1 a0 B P M T K U L)) C (c_X0_has l D cI cJ cZ a0 U L x1 r1 er1) gX7_checkEntry_X0_has rfl rfl rfl (by decide +kernel) ⟨Nat.le_of_ble_eq_true rfl, Nat.le_of_ble_eq_true rfl⟩ ⟨Nat.zero_le _, Nat.zero_le _⟩ 25 rfl rfl (zwB ab a5 a3 a6 a1 a0 B ++ zwX5 cI cJ cZ a5 P ++ zwX3 cI cJ cZ a3 M ++ zwX6 cI cJ cZ a6 T ++ zwX1 cI cJ cZ a1 K) [] rfl rfl rfl rfl (Nat.le_of_ble_eq_true rfl) dX7_checkEntry_5 ?_
  refine z_if_ne (tgt := 21) C dX7_checkEntry_8 (by decide) (fun c2 => ?_) (fun c2 => ?_)
  · have hF := zelse hF c2
    have hu := Option.some.inj hF
    subst hu
    exact z_xvret C dX7_checkEntry_21 rfl
  · have hF := zif hF c2
    have hu := Option.some.inj hF
    subst hu
    exact z_throw (E := "java/lang/IndexOutOfBoundsException") (text := "no such entry") C X hl (by decide +kernel) kX7_checkEntry_243 kX7_checkEntry_95243 (by decide +kernel) (fun w h => List.mem_cons_of_mem _ (List.mem_append_right _ h)) zbad_IOE X.1.2.2.1.1.2.2 zgood_IOE dX7_checkEntry_11 dX7_checkEntry_14 dX7_checkEntry_15 dX7_checkEntry_17 dX7_checkEntry_20 (Nat.le_of_ble_eq_true rfl) (Nat.le_of_ble_eq_true rfl)
theorem kX7_kindOf_40 : Cond.fieldLink RX7 40 "SecretBroker" "audit" "LSecretBroker$Audit;" ∈ wsX7_kindOf := by decide +kernel
theorem hX7_kindOf_X7 : ∀ w ∈ wsX70, w ∈ wsX7_kindOf := by decide +kernel
set_option maxHeartbeats 4000000 in
set_option maxRecDepth 100000 in
theorem c_X7_kindOf (l : Launch) (hl : l.stackTraces = false) (D : va_G) (cI cJ cZ : ClassId) (ab : Nat) (a5 : Nat → Nat) (a3 : Nat → Nat) (a6 : Nat → Nat) (a1 : Nat → Nat) (a0 : Nat → Nat) (B : SS) (P : SS) (M : SS) (T : SS) (K : SS) (U : SS) (L : SL) (x1 : Int32) (u : String ⊕ Int32) (hF : f_X7_kindOf U x1 = some u) : zO l yX7_kindOf wsX7_kindOf 7 113 D (zTy cI cJ cZ) [.ref ab, .int x1] (zwX7 cI cJ cZ ab a5 a3 a6 a1 a0 B P M T K U L) (zo (fun (v : Int32) => ((some (.int v)), (zwX7 cI cJ cZ ab a5 a3 a6 a1 a0 B P M T K U L))) u) := by
  refine z_xbody (cc := cX7_kindOf) (maxL := 2) (rty := (some .int)) (own := RX7) (lv := [(0, .ref ab), (1, .int x1)]) (by decide +kernel) rfl rfl (Nat.le_of_ble_eq_true rfl) rfl (fun p e s m args below meth c A C X => ?_)
  refine z_aload_n C dX7_kindOf_0 rfl 0 rfl ?_
  refine z_iload_n C dX7_kindOf_1 rfl 1 rfl ?_
  rcases zth_some hF with ⟨Er1, er1, hE⟩ | ⟨r1, er1, hF⟩
  · subst hE
    exact z_xcallV_T (n := 1) (As := [.int x1]) C X (c_X7_checkEntry l hl D cI cJ cZ ab a5 a3 a6 a1 a0 B P M T K U L x1 (.inl Er1) er1) gX7_kindOf_X7_checkEntry rfl (by decide +kernel) ⟨Nat.le_of_ble_eq_true rfl, Nat.le_of_ble_eq_true rfl⟩ ⟨Nat.le_refl 1, Nat.le_refl 6⟩ 0 rfl rfl [] [] rfl rfl rfl (Nat.le_of_ble_eq_true rfl) dX7_kindOf_2
  · refine z_xcallV_R (n := 1) (As := [.int x1]) (ws' := (zwX7 cI cJ cZ ab a5 a3 a6 a1 a0 B P M T K U L)) C X.1 (c_X7_checkEntry l hl D cI cJ cZ ab a5 a3 a6 a1 a0 B P M T K U L x1 (.inr r1) er1) gX7_kindOf_X7_checkEntry rfl (by decide +kernel) ⟨Nat.le_of_ble_eq_true rfl, Nat.le_of_ble_eq_true rfl⟩ ⟨Nat.zero_le _, Nat.zero_le _⟩ 0 rfl rfl [] [] rfl rfl rfl rfl (Nat.le_of_ble_eq_true rfl) dX7_kindOf_2 ?_
    refine z_aload_n C dX7_kindOf_5 rfl 0 rfl ?_
    refine z_get (ref := "SecretBroker") (v := .ref (a0 0)) C hX7_kindOf_X7 0 rfl rfl 4 (by decide) kX7_kindOf_40 (fun _ h9 => h9) rfl dX7_kindOf_6 ?_
    refine z_iload_n C dX7_kindOf_9 rfl 1 rfl ?_
    obtain ⟨r2, er2, hF⟩ := zbd hF
    refine z_callV (n := 1) (As := [.int x1]) (ws' := (zwX7 cI cJ cZ ab a5 a3 a6 a1 a0 B P M T K U L)) C (c_X0_kindAt l D cI cJ cZ a0 U L x1 r2 er2) gX7_kindOf_X0_kindAt rfl rfl rfl (by decide +kernel) ⟨Nat.le_of_ble_eq_true rfl, Nat.le_of_ble_eq_true rfl⟩ ⟨Nat.zero_le _, Nat.zero_le _⟩ 25 rfl rfl (zwB ab a5 a3 a6 a1 a0 B ++ zwX5 cI cJ cZ a5 P ++ zwX3 cI cJ cZ a3 M ++ zwX6 cI cJ cZ a6 T ++ zwX1 cI cJ cZ a1 K) [] rfl rfl rfl rfl (Nat.le_of_ble_eq_true rfl) dX7_kindOf_10 ?_
    have hu := Option.some.inj hF
    subst hu
    exact z_xiret C dX7_kindOf_13 rfl rfl
theorem kX7_subjectOf_40 : Cond.fieldLink RX7 40 "SecretBroker" "audit" "LSecretBroker$Audit;" ∈ wsX7_subjectOf := by decide +kernel
theorem hX7_subjectOf_X7 : ∀ w ∈ wsX70, w ∈ wsX7_subjectOf := by decide +kernel
set_option maxHeartbeats 4000000 in
set_option maxRecDepth 100000 in
theorem c_X7_subjectOf (l : Launch) (hl : l.stackTraces = false) (D : va_G) (cI cJ cZ : ClassId) (ab : Nat) (a5 : Nat → Nat) (a3 : Nat → Nat) (a6 : Nat → Nat) (a1 : Nat → Nat) (a0 : Nat → Nat) (B : SS) (P : SS) (M : SS) (T : SS) (K : SS) (U : SS) (L : SL) (x1 : Int32) (u : String ⊕ Int32) (hF : f_X7_subjectOf U x1 = some u) : zO l yX7_subjectOf wsX7_subjectOf 7 113 D (zTy cI cJ cZ) [.ref ab, .int x1] (zwX7 cI cJ cZ ab a5 a3 a6 a1 a0 B P M T K U L) (zo (fun (v : Int32) => ((some (.int v)), (zwX7 cI cJ cZ ab a5 a3 a6 a1 a0 B P M T K U L))) u) := by
  refine z_xbody (cc := cX7_subjectOf) (maxL := 2) (rty := (some .int)) (own := RX7) (lv := [(0, .ref ab), (1, .int x1)]) (by decide +kernel) rfl rfl (Nat.le_of_ble_eq_true rfl) rfl (fun p e s m args below meth c A C X => ?_)
  refine z_aload_n C dX7_subjectOf_0 rfl 0 rfl ?_
  refine z_iload_n C dX7_subjectOf_1 rfl 1 rfl ?_
  rcases zth_some hF with ⟨Er1, er1, hE⟩ | ⟨r1, er1, hF⟩
  · subst hE
    exact z_xcallV_T (n := 1) (As := [.int x1]) C X (c_X7_checkEntry l hl D cI cJ cZ ab a5 a3 a6 a1 a0 B P M T K U L x1 (.inl Er1) er1) gX7_subjectOf_X7_checkEntry rfl (by decide +kernel) ⟨Nat.le_of_ble_eq_true rfl, Nat.le_of_ble_eq_true rfl⟩ ⟨Nat.le_refl 1, Nat.le_refl 6⟩ 0 rfl rfl [] [] rfl rfl rfl (Nat.le_of_ble_eq_true rfl) dX7_subjectOf_2
  · refine z_xcallV_R (n := 1) (As := [.int x1]) (ws' := (zwX7 cI cJ cZ ab a5 a3 a6 a1 a0 B P M T K U L)) C X.1 (c_X7_checkEntry l hl D cI cJ cZ ab a5 a3 a6 a1 a0 B P M T K U L x1 (.inr r1) er1) gX7_subjectOf_X7_checkEntry rfl (by decide +kernel) ⟨Nat.le_of_ble_eq_true rfl, Nat.le_of_ble_eq_true rfl⟩ ⟨Nat.zero_le _, Nat.zero_le _⟩ 0 rfl rfl [] [] rfl rfl rfl rfl (Nat.le_of_ble_eq_true rfl) dX7_subjectOf_2 ?_
    refine z_aload_n C dX7_subjectOf_5 rfl 0 rfl ?_
    refine z_get (ref := "SecretBroker") (v := .ref (a0 0)) C hX7_subjectOf_X7 0 rfl rfl 4 (by decide) kX7_subjectOf_40 (fun _ h9 => h9) rfl dX7_subjectOf_6 ?_
    refine z_iload_n C dX7_subjectOf_9 rfl 1 rfl ?_
    obtain ⟨r2, er2, hF⟩ := zbd hF
    refine z_callV (n := 1) (As := [.int x1]) (ws' := (zwX7 cI cJ cZ ab a5 a3 a6 a1 a0 B P M T K U L)) C (c_X0_subjectAt l D cI cJ cZ a0 U L x1 r2 er2) gX7_subjectOf_X0_subjectAt rfl rfl rfl (by decide +kernel) ⟨Nat.le_of_ble_eq_true rfl, Nat.le_of_ble_eq_true rfl⟩ ⟨Nat.zero_le _, Nat.zero_le _⟩ 25 rfl rfl (zwB ab a5 a3 a6 a1 a0 B ++ zwX5 cI cJ cZ a5 P ++ zwX3 cI cJ cZ a3 M ++ zwX6 cI cJ cZ a6 T ++ zwX1 cI cJ cZ a1 K) [] rfl rfl rfl rfl (Nat.le_of_ble_eq_true rfl) dX7_subjectOf_10 ?_
    have hu := Option.some.inj hF
    subst hu
    exact z_xiret C dX7_subjectOf_13 rfl rfl
theorem kX7_detailOf_40 : Cond.fieldLink RX7 40 "SecretBroker" "audit" "LSecretBroker$Audit;" ∈ wsX7_detailOf := by decide +kernel
theorem hX7_detailOf_X7 : ∀ w ∈ wsX70, w ∈ wsX7_detailOf := by decide +kernel
set_option maxHeartbeats 4000000 in
set_option maxRecDepth 100000 in
theorem c_X7_detailOf (l : Launch) (hl : l.stackTraces = false) (D : va_G) (cI cJ cZ : ClassId) (ab : Nat) (a5 : Nat → Nat) (a3 : Nat → Nat) (a6 : Nat → Nat) (a1 : Nat → Nat) (a0 : Nat → Nat) (B : SS) (P : SS) (M : SS) (T : SS) (K : SS) (U : SS) (L : SL) (x1 : Int32) (u : String ⊕ Int32) (hF : f_X7_detailOf U x1 = some u) : zO l yX7_detailOf wsX7_detailOf 7 113 D (zTy cI cJ cZ) [.ref ab, .int x1] (zwX7 cI cJ cZ ab a5 a3 a6 a1 a0 B P M T K U L) (zo (fun (v : Int32) => ((some (.int v)), (zwX7 cI cJ cZ ab a5 a3 a6 a1 a0 B P M T K U L))) u) := by
  refine z_xbody (cc := cX7_detailOf) (maxL := 2) (rty := (some .int)) (own := RX7) (lv := [(0, .ref ab), (1, .int x1)]) (by decide +kernel) rfl rfl (Nat.le_of_ble_eq_true rfl) rfl (fun p e s m args below meth c A C X => ?_)
  refine z_aload_n C dX7_detailOf_0 rfl 0 rfl ?_
  refine z_iload_n C dX7_detailOf_1 rfl 1 rfl ?_
  rcases zth_some hF with ⟨Er1, er1, hE⟩ | ⟨r1, er1, hF⟩
  · subst hE
    exact z_xcallV_T (n := 1) (As := [.int x1]) C X (c_X7_checkEntry l hl D cI cJ cZ ab a5 a3 a6 a1 a0 B P M T K U L x1 (.inl Er1) er1) gX7_detailOf_X7_checkEntry rfl (by decide +kernel) ⟨Nat.le_of_ble_eq_true rfl, Nat.le_of_ble_eq_true rfl⟩ ⟨Nat.le_refl 1, Nat.le_refl 6⟩ 0 rfl rfl [] [] rfl rfl rfl (Nat.le_of_ble_eq_true rfl) dX7_detailOf_2
  · refine z_xcallV_R (n := 1) (As := [.int x1]) (ws' := (zwX7 cI cJ cZ ab a5 a3 a6 a1 a0 B P M T K U L)) C X.1 (c_X7_checkEntry l hl D cI cJ cZ ab a5 a3 a6 a1 a0 B P M T K U L x1 (.inr r1) er1) gX7_detailOf_X7_checkEntry rfl (by decide +kernel) ⟨Nat.le_of_ble_eq_true rfl, Nat.le_of_ble_eq_true rfl⟩ ⟨Nat.zero_le _, Nat.zero_le _⟩ 0 rfl rfl [] [] rfl rfl rfl rfl (Nat.le_of_ble_eq_true rfl) dX7_detailOf_2 ?_
    refine z_aload_n C dX7_detailOf_5 rfl 0 rfl ?_
    refine z_get (ref := "SecretBroker") (v := .ref (a0 0)) C hX7_detailOf_X7 0 rfl rfl 4 (by decide) kX7_detailOf_40 (fun _ h9 => h9) rfl dX7_detailOf_6 ?_
    refine z_iload_n C dX7_detailOf_9 rfl 1 rfl ?_
    obtain ⟨r2, er2, hF⟩ := zbd hF
    refine z_callV (n := 1) (As := [.int x1]) (ws' := (zwX7 cI cJ cZ ab a5 a3 a6 a1 a0 B P M T K U L)) C (c_X0_detailAt l D cI cJ cZ a0 U L x1 r2 er2) gX7_detailOf_X0_detailAt rfl rfl rfl (by decide +kernel) ⟨Nat.le_of_ble_eq_true rfl, Nat.le_of_ble_eq_true rfl⟩ ⟨Nat.zero_le _, Nat.zero_le _⟩ 25 rfl rfl (zwB ab a5 a3 a6 a1 a0 B ++ zwX5 cI cJ cZ a5 P ++ zwX3 cI cJ cZ a3 M ++ zwX6 cI cJ cZ a6 T ++ zwX1 cI cJ cZ a1 K) [] rfl rfl rfl rfl (Nat.le_of_ble_eq_true rfl) dX7_detailOf_10 ?_
    have hu := Option.some.inj hF
    subst hu
    exact z_xiret C dX7_detailOf_13 rfl rfl
theorem kX7_sumOf_40 : Cond.fieldLink RX7 40 "SecretBroker" "audit" "LSecretBroker$Audit;" ∈ wsX7_sumOf := by decide +kernel
theorem hX7_sumOf_X7 : ∀ w ∈ wsX70, w ∈ wsX7_sumOf := by decide +kernel
set_option maxHeartbeats 4000000 in
set_option maxRecDepth 100000 in
theorem c_X7_sumOf (l : Launch) (hl : l.stackTraces = false) (D : va_G) (cI cJ cZ : ClassId) (ab : Nat) (a5 : Nat → Nat) (a3 : Nat → Nat) (a6 : Nat → Nat) (a1 : Nat → Nat) (a0 : Nat → Nat) (B : SS) (P : SS) (M : SS) (T : SS) (K : SS) (U : SS) (L : SL) (x1 : Int32) (u : String ⊕ Int64) (hF : f_X7_sumOf U L x1 = some u) : zO l yX7_sumOf wsX7_sumOf 7 113 D (zTy cI cJ cZ) [.ref ab, .int x1] (zwX7 cI cJ cZ ab a5 a3 a6 a1 a0 B P M T K U L) (zo (fun (v : Int64) => ((some (.long v)), (zwX7 cI cJ cZ ab a5 a3 a6 a1 a0 B P M T K U L))) u) := by
  refine z_xbody (cc := cX7_sumOf) (maxL := 2) (rty := (some .long)) (own := RX7) (lv := [(0, .ref ab), (1, .int x1)]) (by decide +kernel) rfl rfl (Nat.le_of_ble_eq_true rfl) rfl (fun p e s m args below meth c A C X => ?_)
  refine z_aload_n C dX7_sumOf_0 rfl 0 rfl ?_
  refine z_iload_n C dX7_sumOf_1 rfl 1 rfl ?_
  rcases zth_some hF with ⟨Er1, er1, hE⟩ | ⟨r1, er1, hF⟩
  · subst hE
    exact z_xcallV_T (n := 1) (As := [.int x1]) C X (c_X7_checkEntry l hl D cI cJ cZ ab a5 a3 a6 a1 a0 B P M T K U L x1 (.inl Er1) er1) gX7_sumOf_X7_checkEntry rfl (by decide +kernel) ⟨Nat.le_of_ble_eq_true rfl, Nat.le_of_ble_eq_true rfl⟩ ⟨Nat.le_refl 1, Nat.le_refl 6⟩ 0 rfl rfl [] [] rfl rfl rfl (Nat.le_of_ble_eq_true rfl) dX7_sumOf_2
  · refine z_xcallV_R (n := 1) (As := [.int x1]) (ws' := (zwX7 cI cJ cZ ab a5 a3 a6 a1 a0 B P M T K U L)) C X.1 (c_X7_checkEntry l hl D cI cJ cZ ab a5 a3 a6 a1 a0 B P M T K U L x1 (.inr r1) er1) gX7_sumOf_X7_checkEntry rfl (by decide +kernel) ⟨Nat.le_of_ble_eq_true rfl, Nat.le_of_ble_eq_true rfl⟩ ⟨Nat.zero_le _, Nat.zero_le _⟩ 0 rfl rfl [] [] rfl rfl rfl rfl (Nat.le_of_ble_eq_true rfl) dX7_sumOf_2 ?_
    refine z_aload_n C dX7_sumOf_5 rfl 0 rfl ?_
    refine z_get (ref := "SecretBroker") (v := .ref (a0 0)) C hX7_sumOf_X7 0 rfl rfl 4 (by decide) kX7_sumOf_40 (fun _ h9 => h9) rfl dX7_sumOf_6 ?_
    refine z_iload_n C dX7_sumOf_9 rfl 1 rfl ?_
    obtain ⟨r2, er2, hF⟩ := zbd hF
    refine z_callV (n := 1) (As := [.int x1]) (ws' := (zwX7 cI cJ cZ ab a5 a3 a6 a1 a0 B P M T K U L)) C (c_X0_sumAt l D cI cJ cZ a0 U L x1 r2 er2) gX7_sumOf_X0_sumAt rfl rfl rfl (by decide +kernel) ⟨Nat.le_of_ble_eq_true rfl, Nat.le_of_ble_eq_true rfl⟩ ⟨Nat.zero_le _, Nat.zero_le _⟩ 25 rfl rfl (zwB ab a5 a3 a6 a1 a0 B ++ zwX5 cI cJ cZ a5 P ++ zwX3 cI cJ cZ a3 M ++ zwX6 cI cJ cZ a6 T ++ zwX1 cI cJ cZ a1 K) [] rfl rfl rfl rfl (Nat.le_of_ble_eq_true rfl) dX7_sumOf_10 ?_
    have hu := Option.some.inj hF
    subst hu
    exact z_xlret C dX7_sumOf_13 rfl
