set_option maxHeartbeats 4000000 in
set_option maxRecDepth 100000 in
theorem c_X7_revoke (l : Launch) (hl : l.stackTraces = false) (D : va_G) (cI cJ cZ : ClassId) (ab : Nat) (a5 : Nat → Nat) (a3 : Nat → Nat) (a6 : Nat → Nat) (a1 : Nat → Nat) (a0 : Nat → Nat) (B : SS) (P : SS) (M : SS) (T : SS) (K : SS) (U : SS) (L : SL) (x1 : Int32) (u : String ⊕ (Int32 × SS × SS × SS × SL)) (hF : f_X7_revoke B T K U L x1 = some u) : zO l yX7_revoke wsX7_revoke 8 134 D (zTy cI cJ cZ) [.ref ab, .int x1] (zwX7 cI cJ cZ ab a5 a3 a6 a1 a0 B P M T K U L) (zo (fun (v : (Int32 × SS × SS × SS × SL)) => ((some (.int v.1)), (zwX7 cI cJ cZ ab a5 a3 a6 a1 a0 B P M v.2.1 v.2.2.1 v.2.2.2.1 v.2.2.2.2))) u) := by
  refine z_xbody (cc := cX7_revoke) (maxL := 2) (rty := (some .int)) (own := RX7) (lv := [(0, .ref ab), (1, .int x1)]) (by decide +kernel) rfl rfl (Nat.le_of_ble_eq_true rfl) rfl (fun p e s m args below meth c A C X => ?_)
  refine z_aload_n C dX7_revoke_0 rfl 0 rfl ?_
  refine z_iload_n C dX7_revoke_1 rfl 1 rfl ?_
  rcases zth_some hF with ⟨Er1, er1, hE⟩ | ⟨r1, er1, hF⟩
  · subst hE
    exact z_xcallV_T (n := 1) (As := [.int x1]) C X (c_X7_checkToken l hl D cI cJ cZ ab a5 a3 a6 a1 a0 B P M T K U L x1 (.inl Er1) er1) gX7_revoke_X7_checkToken rfl (by decide +kernel) ⟨Nat.le_of_ble_eq_true rfl, Nat.le_of_ble_eq_true rfl⟩ ⟨Nat.le_refl 1, Nat.le_refl 6⟩ 0 rfl rfl [] [] rfl rfl rfl (Nat.le_of_ble_eq_true rfl) dX7_revoke_2
  · refine z_xcallV_R (n := 1) (As := [.int x1]) (ws' := (zwX7 cI cJ cZ ab a5 a3 a6 a1 a0 B P M T K U L)) C X.1 (c_X7_checkToken l hl D cI cJ cZ ab a5 a3 a6 a1 a0 B P M T K U L x1 (.inr r1) er1) gX7_revoke_X7_checkToken rfl (by decide +kernel) ⟨Nat.le_of_ble_eq_true rfl, Nat.le_of_ble_eq_true rfl⟩ ⟨Nat.zero_le _, Nat.zero_le _⟩ 0 rfl rfl [] [] rfl rfl rfl rfl (Nat.le_of_ble_eq_true rfl) dX7_revoke_2 ?_
    refine z_aload_n C dX7_revoke_5 rfl 0 rfl ?_
    refine z_iload_n C dX7_revoke_6 rfl 1 rfl ?_
    rcases zth_some hF with ⟨Er2, er2, hE⟩ | ⟨r2, er2, hF⟩
    · subst hE
      exact z_xcallV_T (n := 1) (As := [.int x1]) C X (c_X7_checkEndingToken l hl D cI cJ cZ ab a5 a3 a6 a1 a0 B P M T K U L x1 (.inl Er2) er2) gX7_revoke_X7_checkEndingToken rfl (by decide +kernel) ⟨Nat.le_of_ble_eq_true rfl, Nat.le_of_ble_eq_true rfl⟩ ⟨Nat.le_refl 1, Nat.le_refl 6⟩ 0 rfl rfl [] [] rfl rfl rfl (Nat.le_of_ble_eq_true rfl) dX7_revoke_7
    · refine z_xcallV_R (n := 1) (As := [.int x1]) (ws' := (zwX7 cI cJ cZ ab a5 a3 a6 a1 a0 B P M T K U L)) C X.1 (c_X7_checkEndingToken l hl D cI cJ cZ ab a5 a3 a6 a1 a0 B P M T K U L x1 (.inr r2) er2) gX7_revoke_X7_checkEndingToken rfl (by decide +kernel) ⟨Nat.le_of_ble_eq_true rfl, Nat.le_of_ble_eq_true rfl⟩ ⟨Nat.zero_le _, Nat.zero_le _⟩ 0 rfl rfl [] [] rfl rfl rfl rfl (Nat.le_of_ble_eq_true rfl) dX7_revoke_7 ?_
      refine z_aload_n C dX7_revoke_10 rfl 0 rfl ?_
      refine z_iload_n C dX7_revoke_11 rfl 1 rfl ?_
      obtain ⟨r3, er3, hF⟩ := zbd hF
      refine z_callV (n := 1) (As := [.int x1]) (ws' := (zwX7 cI cJ cZ ab a5 a3 a6 a1 a0 B P M r3.2.1 r3.2.2.1 r3.2.2.2.1 r3.2.2.2.2)) C (c_X7_endToken l D cI cJ cZ ab a5 a3 a6 a1 a0 B P M T K U L x1 r3 er3) gX7_revoke_X7_endToken rfl rfl rfl (by decide +kernel) ⟨Nat.le_of_ble_eq_true rfl, Nat.le_of_ble_eq_true rfl⟩ ⟨Nat.zero_le _, Nat.zero_le _⟩ 0 rfl rfl [] [] rfl rfl rfl rfl (Nat.le_of_ble_eq_true rfl) dX7_revoke_12 ?_
      have hu := Option.some.inj hF
      subst hu
      exact z_xiret C dX7_revoke_15 rfl rfl
theorem kX7_revokeAlone_26 : Cond.fieldLink RX7 26 "SecretBroker" "tokenTable" "LSecretBroker$Tokens;" ∈ wsX7_revokeAlone := by decide +kernel
theorem hX7_revokeAlone_X7 : ∀ w ∈ wsX70, w ∈ wsX7_revokeAlone := by decide +kernel
set_option maxHeartbeats 4000000 in
set_option maxRecDepth 100000 in
theorem c_X7_revokeAlone (l : Launch) (hl : l.stackTraces = false) (D : va_G) (cI cJ cZ : ClassId) (ab : Nat) (a5 : Nat → Nat) (a3 : Nat → Nat) (a6 : Nat → Nat) (a1 : Nat → Nat) (a0 : Nat → Nat) (B : SS) (P : SS) (M : SS) (T : SS) (K : SS) (U : SS) (L : SL) (x1 : Int32) (u : String ⊕ (Int32 × SS × SS × SS × SL)) (hF : f_X7_revokeAlone B T K U L x1 = some u) : zO l yX7_revokeAlone wsX7_revokeAlone 8 134 D (zTy cI cJ cZ) [.ref ab, .int x1] (zwX7 cI cJ cZ ab a5 a3 a6 a1 a0 B P M T K U L) (zo (fun (v : (Int32 × SS × SS × SS × SL)) => ((some (.int v.1)), (zwX7 cI cJ cZ ab a5 a3 a6 a1 a0 B P M v.2.1 v.2.2.1 v.2.2.2.1 v.2.2.2.2))) u) := by
  refine z_xbody (cc := cX7_revokeAlone) (maxL := 2) (rty := (some .int)) (own := RX7) (lv := [(0, .ref ab), (1, .int x1)]) (by decide +kernel) rfl rfl (Nat.le_of_ble_eq_true rfl) rfl (fun p e s m args below meth c A C X => ?_)
  refine z_aload_n C dX7_revokeAlone_0 rfl 0 rfl ?_
  refine z_iload_n C dX7_revokeAlone_1 rfl 1 rfl ?_
  rcases zth_some hF with ⟨Er1, er1, hE⟩ | ⟨r1, er1, hF⟩
  · subst hE
    exact z_xcallV_T (n := 1) (As := [.int x1]) C X (c_X7_checkToken l hl D cI cJ cZ ab a5 a3 a6 a1 a0 B P M T K U L x1 (.inl Er1) er1) gX7_revokeAlone_X7_checkToken rfl (by decide +kernel) ⟨Nat.le_of_ble_eq_true rfl, Nat.le_of_ble_eq_true rfl⟩ ⟨Nat.le_refl 1, Nat.le_refl 6⟩ 0 rfl rfl [] [] rfl rfl rfl (Nat.le_of_ble_eq_true rfl) dX7_revokeAlone_2
  · refine z_xcallV_R (n := 1) (As := [.int x1]) (ws' := (zwX7 cI cJ cZ ab a5 a3 a6 a1 a0 B P M T K U L)) C X.1 (c_X7_checkToken l hl D cI cJ cZ ab a5 a3 a6 a1 a0 B P M T K U L x1 (.inr r1) er1) gX7_revokeAlone_X7_checkToken rfl (by decide +kernel) ⟨Nat.le_of_ble_eq_true rfl, Nat.le_of_ble_eq_true rfl⟩ ⟨Nat.zero_le _, Nat.zero_le _⟩ 0 rfl rfl [] [] rfl rfl rfl rfl (Nat.le_of_ble_eq_true rfl) dX7_revokeAlone_2 ?_
    refine z_aload_n C dX7_revokeAlone_5 rfl 0 rfl ?_
    refine z_iload_n C dX7_revokeAlone_6 rfl 1 rfl ?_
    rcases zth_some hF with ⟨Er2, er2, hE⟩ | ⟨r2, er2, hF⟩
    · subst hE
      exact z_xcallV_T (n := 1) (As := [.int x1]) C X (c_X7_checkEndingToken l hl D cI cJ cZ ab a5 a3 a6 a1 a0 B P M T K U L x1 (.inl Er2) er2) gX7_revokeAlone_X7_checkEndingToken rfl (by decide +kernel) ⟨Nat.le_of_ble_eq_true rfl, Nat.le_of_ble_eq_true rfl⟩ ⟨Nat.le_refl 1, Nat.le_refl 6⟩ 0 rfl rfl [] [] rfl rfl rfl (Nat.le_of_ble_eq_true rfl) dX7_revokeAlone_7
    · refine z_xcallV_R (n := 1) (As := [.int x1]) (ws' := (zwX7 cI cJ cZ ab a5 a3 a6 a1 a0 B P M T K U L)) C X.1 (c_X7_checkEndingToken l hl D cI cJ cZ ab a5 a3 a6 a1 a0 B P M T K U L x1 (.inr r2) er2) gX7_revokeAlone_X7_checkEndingToken rfl (by decide +kernel) ⟨Nat.le_of_ble_eq_true rfl, Nat.le_of_ble_eq_true rfl⟩ ⟨Nat.zero_le _, Nat.zero_le _⟩ 0 rfl rfl [] [] rfl rfl rfl rfl (Nat.le_of_ble_eq_true rfl) dX7_revokeAlone_7 ?_
      refine z_aload_n C dX7_revokeAlone_10 rfl 0 rfl ?_
      refine z_get (ref := "SecretBroker") (v := .ref (a6 0)) C hX7_revokeAlone_X7 0 rfl rfl 2 (by decide) kX7_revokeAlone_26 (fun _ h9 => h9) rfl dX7_revokeAlone_11 ?_
      refine z_iload_n C dX7_revokeAlone_14 rfl 1 rfl ?_
      obtain ⟨r3, er3, hF⟩ := zbd hF
      refine z_callV (n := 1) (As := [.int x1]) (ws' := (zwX7 cI cJ cZ ab a5 a3 a6 a1 a0 B P M r3 K U L)) C (c_X6_freeChildren l D cI cJ cZ a6 T x1 r3 er3) gX7_revokeAlone_X6_freeChildren rfl rfl rfl (by decide +kernel) ⟨Nat.le_of_ble_eq_true rfl, Nat.le_of_ble_eq_true rfl⟩ ⟨Nat.zero_le _, Nat.zero_le _⟩ 10 rfl rfl (zwB ab a5 a3 a6 a1 a0 B ++ zwX5 cI cJ cZ a5 P ++ zwX3 cI cJ cZ a3 M) (zwX1 cI cJ cZ a1 K ++ zwX0 cI cJ cZ a0 U L) rfl rfl rfl rfl (Nat.le_of_ble_eq_true rfl) dX7_revokeAlone_15 ?_
      refine z_aload_n C dX7_revokeAlone_18 rfl 0 rfl ?_
      refine z_iload_n C dX7_revokeAlone_19 rfl 1 rfl ?_
      obtain ⟨r4, er4, hF⟩ := zbd hF
      refine z_callV (n := 1) (As := [.int x1]) (ws' := (zwX7 cI cJ cZ ab a5 a3 a6 a1 a0 B P M r4.2.1 r4.2.2.1 r4.2.2.2.1 r4.2.2.2.2)) C (c_X7_endToken l D cI cJ cZ ab a5 a3 a6 a1 a0 B P M r3 K U L x1 r4 er4) gX7_revokeAlone_X7_endToken rfl rfl rfl (by decide +kernel) ⟨Nat.le_of_ble_eq_true rfl, Nat.le_of_ble_eq_true rfl⟩ ⟨Nat.zero_le _, Nat.zero_le _⟩ 0 rfl rfl [] [] rfl rfl rfl rfl (Nat.le_of_ble_eq_true rfl) dX7_revokeAlone_20 ?_
      have hu := Option.some.inj hF
      subst hu
      exact z_xiret C dX7_revokeAlone_23 rfl rfl
theorem kX7_isAlive_26 : Cond.fieldLink RX7 26 "SecretBroker" "tokenTable" "LSecretBroker$Tokens;" ∈ wsX7_isAlive := by decide +kernel
theorem hX7_isAlive_X7 : ∀ w ∈ wsX70, w ∈ wsX7_isAlive := by decide +kernel
set_option maxHeartbeats 4000000 in
set_option maxRecDepth 100000 in
theorem c_X7_isAlive (l : Launch) (hl : l.stackTraces = false) (D : va_G) (cI cJ cZ : ClassId) (ab : Nat) (a5 : Nat → Nat) (a3 : Nat → Nat) (a6 : Nat → Nat) (a1 : Nat → Nat) (a0 : Nat → Nat) (B : SS) (P : SS) (M : SS) (T : SS) (K : SS) (U : SS) (L : SL) (x1 : Int32) (u : String ⊕ Int32) (hF : f_X7_isAlive T x1 = some u) : zO l yX7_isAlive wsX7_isAlive 7 113 D (zTy cI cJ cZ) [.ref ab, .int x1] (zwX7 cI cJ cZ ab a5 a3 a6 a1 a0 B P M T K U L) (zo (fun (v : Int32) => ((some (.int v)), (zwX7 cI cJ cZ ab a5 a3 a6 a1 a0 B P M T K U L))) u) := by
  refine z_xbody (cc := cX7_isAlive) (maxL := 2) (rty := (some .boolean)) (own := RX7) (lv := [(0, .ref ab), (1, .int x1)]) (by decide +kernel) rfl rfl (Nat.le_of_ble_eq_true rfl) rfl (fun p e s m args below meth c A C X => ?_)
  refine z_aload_n C dX7_isAlive_0 rfl 0 rfl ?_
  refine z_iload_n C dX7_isAlive_1 rfl 1 rfl ?_
  rcases zth_some hF with ⟨Er1, er1, hE⟩ | ⟨r1, er1, hF⟩
  · subst hE
    exact z_xcallV_T (n := 1) (As := [.int x1]) C X (c_X7_checkToken l hl D cI cJ cZ ab a5 a3 a6 a1 a0 B P M T K U L x1 (.inl Er1) er1) gX7_isAlive_X7_checkToken rfl (by decide +kernel) ⟨Nat.le_of_ble_eq_true rfl, Nat.le_of_ble_eq_true rfl⟩ ⟨Nat.le_refl 1, Nat.le_refl 6⟩ 0 rfl rfl [] [] rfl rfl rfl (Nat.le_of_ble_eq_true rfl) dX7_isAlive_2
  · refine z_xcallV_R (n := 1) (As := [.int x1]) (ws' := (zwX7 cI cJ cZ ab a5 a3 a6 a1 a0 B P M T K U L)) C X.1 (c_X7_checkToken l hl D cI cJ cZ ab a5 a3 a6 a1 a0 B P M T K U L x1 (.inr r1) er1) gX7_isAlive_X7_checkToken rfl (by decide +kernel) ⟨Nat.le_of_ble_eq_true rfl, Nat.le_of_ble_eq_true rfl⟩ ⟨Nat.zero_le _, Nat.zero_le _⟩ 0 rfl rfl [] [] rfl rfl rfl rfl (Nat.le_of_ble_eq_true rfl) dX7_isAlive_2 ?_
    refine z_aload_n C dX7_isAlive_5 rfl 0 rfl ?_
    refine z_get (ref := "SecretBroker") (v := .ref (a6 0)) C hX7_isAlive_X7 0 rfl rfl 2 (by decide) kX7_isAlive_26 (fun _ h9 => h9) rfl dX7_isAlive_6 ?_
    refine z_iload_n C dX7_isAlive_9 rfl 1 rfl ?_
    obtain ⟨r2, er2, hF⟩ := zbd hF
    refine z_callU (n := 1) (As := [.int x1]) (ws' := (zwX7 cI cJ cZ ab a5 a3 a6 a1 a0 B P M T K U L)) C (c_X2_isOn_6 l D cI cJ cZ a6 T x1 r2 er2) gX7_isAlive_X2_isOn_u158X6 rfl rfl rfl rfl (by decide +kernel) ⟨Nat.le_of_ble_eq_true rfl, Nat.le_of_ble_eq_true rfl⟩ ⟨Nat.zero_le _, Nat.zero_le _⟩ 10 rfl rfl (zwB ab a5 a3 a6 a1 a0 B ++ zwX5 cI cJ cZ a5 P ++ zwX3 cI cJ cZ a3 M) (zwX1 cI cJ cZ a1 K ++ zwX0 cI cJ cZ a0 U L) rfl rfl rfl rfl (Nat.le_of_ble_eq_true rfl) dX7_isAlive_10 ?_
    obtain ⟨g3, hF⟩ := zbo_some hF
    have hu := Option.some.inj hF
    subst hu
    exact z_xiret C dX7_isAlive_13 rfl g3
theorem kX7_parentOf_26 : Cond.fieldLink RX7 26 "SecretBroker" "tokenTable" "LSecretBroker$Tokens;" ∈ wsX7_parentOf := by decide +kernel
theorem hX7_parentOf_X7 : ∀ w ∈ wsX70, w ∈ wsX7_parentOf := by decide +kernel
set_option maxHeartbeats 4000000 in
set_option maxRecDepth 100000 in
theorem c_X7_parentOf (l : Launch) (hl : l.stackTraces = false) (D : va_G) (cI cJ cZ : ClassId) (ab : Nat) (a5 : Nat → Nat) (a3 : Nat → Nat) (a6 : Nat → Nat) (a1 : Nat → Nat) (a0 : Nat → Nat) (B : SS) (P : SS) (M : SS) (T : SS) (K : SS) (U : SS) (L : SL) (x1 : Int32) (u : String ⊕ Int32) (hF : f_X7_parentOf T x1 = some u) : zO l yX7_parentOf wsX7_parentOf 7 113 D (zTy cI cJ cZ) [.ref ab, .int x1] (zwX7 cI cJ cZ ab a5 a3 a6 a1 a0 B P M T K U L) (zo (fun (v : Int32) => ((some (.int v)), (zwX7 cI cJ cZ ab a5 a3 a6 a1 a0 B P M T K U L))) u) := by
  refine z_xbody (cc := cX7_parentOf) (maxL := 2) (rty := (some .int)) (own := RX7) (lv := [(0, .ref ab), (1, .int x1)]) (by decide +kernel) rfl rfl (Nat.le_of_ble_eq_true rfl) rfl (fun p e s m args below meth c A C X => ?_)
  refine z_aload_n C dX7_parentOf_0 rfl 0 rfl ?_
  refine z_iload_n C dX7_parentOf_1 rfl 1 rfl ?_
  rcases zth_some hF with ⟨Er1, er1, hE⟩ | ⟨r1, er1, hF⟩
  · subst hE
    exact z_xcallV_T (n := 1) (As := [.int x1]) C X (c_X7_checkToken l hl D cI cJ cZ ab a5 a3 a6 a1 a0 B P M T K U L x1 (.inl Er1) er1) gX7_parentOf_X7_checkToken rfl (by decide +kernel) ⟨Nat.le_of_ble_eq_true rfl, Nat.le_of_ble_eq_true rfl⟩ ⟨Nat.le_refl 1, Nat.le_refl 6⟩ 0 rfl rfl [] [] rfl rfl rfl (Nat.le_of_ble_eq_true rfl) dX7_parentOf_2
  · refine z_xcallV_R (n := 1) (As := [.int x1]) (ws' := (zwX7 cI cJ cZ ab a5 a3 a6 a1 a0 B P M T K U L)) C X.1 (c_X7_checkToken l hl D cI cJ cZ ab a5 a3 a6 a1 a0 B P M T K U L x1 (.inr r1) er1) gX7_parentOf_X7_checkToken rfl (by decide +kernel) ⟨Nat.le_of_ble_eq_true rfl, Nat.le_of_ble_eq_true rfl⟩ ⟨Nat.zero_le _, Nat.zero_le _⟩ 0 rfl rfl [] [] rfl rfl rfl rfl (Nat.le_of_ble_eq_true rfl) dX7_parentOf_2 ?_
    refine z_aload_n C dX7_parentOf_5 rfl 0 rfl ?_
    refine z_get (ref := "SecretBroker") (v := .ref (a6 0)) C hX7_parentOf_X7 0 rfl rfl 2 (by decide) kX7_parentOf_26 (fun _ h9 => h9) rfl dX7_parentOf_6 ?_
    refine z_iload_n C dX7_parentOf_9 rfl 1 rfl ?_
    obtain ⟨r2, er2, hF⟩ := zbd hF
    refine z_callV (n := 1) (As := [.int x1]) (ws' := (zwX7 cI cJ cZ ab a5 a3 a6 a1 a0 B P M T K U L)) C (c_X6_parentAt l D cI cJ cZ a6 T x1 r2 er2) gX7_parentOf_X6_parentAt rfl rfl rfl (by decide +kernel) ⟨Nat.le_of_ble_eq_true rfl, Nat.le_of_ble_eq_true rfl⟩ ⟨Nat.zero_le _, Nat.zero_le _⟩ 10 rfl rfl (zwB ab a5 a3 a6 a1 a0 B ++ zwX5 cI cJ cZ a5 P ++ zwX3 cI cJ cZ a3 M) (zwX1 cI cJ cZ a1 K ++ zwX0 cI cJ cZ a0 U L) rfl rfl rfl rfl (Nat.le_of_ble_eq_true rfl) dX7_parentOf_10 ?_
    have hu := Option.some.inj hF
    subst hu
    exact z_xiret C dX7_parentOf_13 rfl rfl
theorem kX7_endOf_26 : Cond.fieldLink RX7 26 "SecretBroker" "tokenTable" "LSecretBroker$Tokens;" ∈ wsX7_endOf := by decide +kernel
theorem hX7_endOf_X7 : ∀ w ∈ wsX70, w ∈ wsX7_endOf := by decide +kernel
set_option maxHeartbeats 4000000 in
set_option maxRecDepth 100000 in
theorem c_X7_endOf (l : Launch) (hl : l.stackTraces = false) (D : va_G) (cI cJ cZ : ClassId) (ab : Nat) (a5 : Nat → Nat) (a3 : Nat → Nat) (a6 : Nat → Nat) (a1 : Nat → Nat) (a0 : Nat → Nat) (B : SS) (P : SS) (M : SS) (T : SS) (K : SS) (U : SS) (L : SL) (x1 : Int32) (u : String ⊕ Int32) (hF : f_X7_endOf T x1 = some u) : zO l yX7_endOf wsX7_endOf 7 113 D (zTy cI cJ cZ) [.ref ab, .int x1] (zwX7 cI cJ cZ ab a5 a3 a6 a1 a0 B P M T K U L) (zo (fun (v : Int32) => ((some (.int v)), (zwX7 cI cJ cZ ab a5 a3 a6 a1 a0 B P M T K U L))) u) := by
  refine z_xbody (cc := cX7_endOf) (maxL := 2) (rty := (some .int)) (own := RX7) (lv := [(0, .ref ab), (1, .int x1)]) (by decide +kernel) rfl rfl (Nat.le_of_ble_eq_true rfl) rfl (fun p e s m args below meth c A C X => ?_)
  refine z_aload_n C dX7_endOf_0 rfl 0 rfl ?_
  refine z_iload_n C dX7_endOf_1 rfl 1 rfl ?_
  rcases zth_some hF with ⟨Er1, er1, hE⟩ | ⟨r1, er1, hF⟩
  · subst hE
    exact z_xcallV_T (n := 1) (As := [.int x1]) C X (c_X7_checkToken l hl D cI cJ cZ ab a5 a3 a6 a1 a0 B P M T K U L x1 (.inl Er1) er1) gX7_endOf_X7_checkToken rfl (by decide +kernel) ⟨Nat.le_of_ble_eq_true rfl, Nat.le_of_ble_eq_true rfl⟩ ⟨Nat.le_refl 1, Nat.le_refl 6⟩ 0 rfl rfl [] [] rfl rfl rfl (Nat.le_of_ble_eq_true rfl) dX7_endOf_2
  · refine z_xcallV_R (n := 1) (As := [.int x1]) (ws' := (zwX7 cI cJ cZ ab a5 a3 a6 a1 a0 B P M T K U L)) C X.1 (c_X7_checkToken l hl D cI cJ cZ ab a5 a3 a6 a1 a0 B P M T K U L x1 (.inr r1) er1) gX7_endOf_X7_checkToken rfl (by decide +kernel) ⟨Nat.le_of_ble_eq_true rfl, Nat.le_of_ble_eq_true rfl⟩ ⟨Nat.zero_le _, Nat.zero_le _⟩ 0 rfl rfl [] [] rfl rfl rfl rfl (Nat.le_of_ble_eq_true rfl) dX7_endOf_2 ?_
    refine z_aload_n C dX7_endOf_5 rfl 0 rfl ?_
    refine z_get (ref := "SecretBroker") (v := .ref (a6 0)) C hX7_endOf_X7 0 rfl rfl 2 (by decide) kX7_endOf_26 (fun _ h9 => h9) rfl dX7_endOf_6 ?_
    refine z_iload_n C dX7_endOf_9 rfl 1 rfl ?_
    obtain ⟨r2, er2, hF⟩ := zbd hF
    refine z_callU (n := 1) (As := [.int x1]) (ws' := (zwX7 cI cJ cZ ab a5 a3 a6 a1 a0 B P M T K U L)) C (c_X2_endAt_6 l D cI cJ cZ a6 T x1 r2 er2) gX7_endOf_X2_endAt_u149X6 rfl rfl rfl rfl (by decide +kernel) ⟨Nat.le_of_ble_eq_true rfl, Nat.le_of_ble_eq_true rfl⟩ ⟨Nat.zero_le _, Nat.zero_le _⟩ 10 rfl rfl (zwB ab a5 a3 a6 a1 a0 B ++ zwX5 cI cJ cZ a5 P ++ zwX3 cI cJ cZ a3 M) (zwX1 cI cJ cZ a1 K ++ zwX0 cI cJ cZ a0 U L) rfl rfl rfl rfl (Nat.le_of_ble_eq_true rfl) dX7_endOf_10 ?_
    have hu := Option.some.inj hF
    subst hu
    exact z_xiret C dX7_endOf_13 rfl rfl
theorem kX7_usesLeft_26 : Cond.fieldLink RX7 26 "SecretBroker" "tokenTable" "LSecretBroker$Tokens;" ∈ wsX7_usesLeft := by decide +kernel
theorem hX7_usesLeft_X7 : ∀ w ∈ wsX70, w ∈ wsX7_usesLeft := by decide +kernel
set_option maxHeartbeats 4000000 in
set_option maxRecDepth 100000 in
theorem c_X7_usesLeft (l : Launch) (hl : l.stackTraces = false) (D : va_G) (cI cJ cZ : ClassId) (ab : Nat) (a5 : Nat → Nat) (a3 : Nat → Nat) (a6 : Nat → Nat) (a1 : Nat → Nat) (a0 : Nat → Nat) (B : SS) (P : SS) (M : SS) (T : SS) (K : SS) (U : SS) (L : SL) (x1 : Int32) (u : String ⊕ Int32) (hF : f_X7_usesLeft T x1 = some u) : zO l yX7_usesLeft wsX7_usesLeft 7 113 D (zTy cI cJ cZ) [.ref ab, .int x1] (zwX7 cI cJ cZ ab a5 a3 a6 a1 a0 B P M T K U L) (zo (fun (v : Int32) => ((some (.int v)), (zwX7 cI cJ cZ ab a5 a3 a6 a1 a0 B P M T K U L))) u) := by
  refine z_xbody (cc := cX7_usesLeft) (maxL := 2) (rty := (some .int)) (own := RX7) (lv := [(0, .ref ab), (1, .int x1)]) (by decide +kernel) rfl rfl (Nat.le_of_ble_eq_true rfl) rfl (fun p e s m args below meth c A C X => ?_)
  refine z_aload_n C dX7_usesLeft_0 rfl 0 rfl ?_
  refine z_iload_n C dX7_usesLeft_1 rfl 1 rfl ?_
  rcases zth_some hF with ⟨Er1, er1, hE⟩ | ⟨r1, er1, hF⟩
  · subst hE
    exact z_xcallV_T (n := 1) (As := [.int x1]) C X (c_X7_checkToken l hl D cI cJ cZ ab a5 a3 a6 a1 a0 B P M T K U L x1 (.inl Er1) er1) gX7_usesLeft_X7_checkToken rfl (by decide +kernel) ⟨Nat.le_of_ble_eq_true rfl, Nat.le_of_ble_eq_true rfl⟩ ⟨Nat.le_refl 1, Nat.le_refl 6⟩ 0 rfl rfl [] [] rfl rfl rfl (Nat.le_of_ble_eq_true rfl) dX7_usesLeft_2
  · refine z_xcallV_R (n := 1) (As := [.int x1]) (ws' := (zwX7 cI cJ cZ ab a5 a3 a6 a1 a0 B P M T K U L)) C X.1 (c_X7_checkToken l hl D cI cJ cZ ab a5 a3 a6 a1 a0 B P M T K U L x1 (.inr r1) er1) gX7_usesLeft_X7_checkToken rfl (by decide +kernel) ⟨Nat.le_of_ble_eq_true rfl, Nat.le_of_ble_eq_true rfl⟩ ⟨Nat.zero_le _, Nat.zero_le _⟩ 0 rfl rfl [] [] rfl rfl rfl rfl (Nat.le_of_ble_eq_true rfl) dX7_usesLeft_2 ?_
    refine z_aload_n C dX7_usesLeft_5 rfl 0 rfl ?_
    refine z_get (ref := "SecretBroker") (v := .ref (a6 0)) C hX7_usesLeft_X7 0 rfl rfl 2 (by decide) kX7_usesLeft_26 (fun _ h9 => h9) rfl dX7_usesLeft_6 ?_
    refine z_iload_n C dX7_usesLeft_9 rfl 1 rfl ?_
    obtain ⟨r2, er2, hF⟩ := zbd hF
    refine z_callV (n := 1) (As := [.int x1]) (ws' := (zwX7 cI cJ cZ ab a5 a3 a6 a1 a0 B P M T K U L)) C (c_X6_usesAt l D cI cJ cZ a6 T x1 r2 er2) gX7_usesLeft_X6_usesAt rfl rfl rfl (by decide +kernel) ⟨Nat.le_of_ble_eq_true rfl, Nat.le_of_ble_eq_true rfl⟩ ⟨Nat.zero_le _, Nat.zero_le _⟩ 10 rfl rfl (zwB ab a5 a3 a6 a1 a0 B ++ zwX5 cI cJ cZ a5 P ++ zwX3 cI cJ cZ a3 M) (zwX1 cI cJ cZ a1 K ++ zwX0 cI cJ cZ a0 U L) rfl rfl rfl rfl (Nat.le_of_ble_eq_true rfl) dX7_usesLeft_10 ?_
    have hu := Option.some.inj hF
    subst hu
    exact z_xiret C dX7_usesLeft_13 rfl rfl
theorem kX7_below_26 : Cond.fieldLink RX7 26 "SecretBroker" "tokenTable" "LSecretBroker$Tokens;" ∈ wsX7_below := by decide +kernel
theorem hX7_below_X7 : ∀ w ∈ wsX70, w ∈ wsX7_below := by decide +kernel
set_option maxHeartbeats 4000000 in
set_option maxRecDepth 100000 in
theorem c_X7_below (l : Launch) (hl : l.stackTraces = false) (D : va_G) (cI cJ cZ : ClassId) (ab : Nat) (a5 : Nat → Nat) (a3 : Nat → Nat) (a6 : Nat → Nat) (a1 : Nat → Nat) (a0 : Nat → Nat) (B : SS) (P : SS) (M : SS) (T : SS) (K : SS) (U : SS) (L : SL) (x1 : Int32) (u : String ⊕ Int32) (hF : f_X7_below T x1 = some u) : zO l yX7_below wsX7_below 7 113 D (zTy cI cJ cZ) [.ref ab, .int x1] (zwX7 cI cJ cZ ab a5 a3 a6 a1 a0 B P M T K U L) (zo (fun (v : Int32) => ((some (.int v)), (zwX7 cI cJ cZ ab a5 a3 a6 a1 a0 B P M T K U L))) u) := by
  refine z_xbody (cc := cX7_below) (maxL := 2) (rty := (some .int)) (own := RX7) (lv := [(0, .ref ab), (1, .int x1)]) (by decide +kernel) rfl rfl (Nat.le_of_ble_eq_true rfl) rfl (fun p e s m args below meth c A C X => ?_)
  refine z_aload_n C dX7_below_0 rfl 0 rfl ?_
  refine z_iload_n C dX7_below_1 rfl 1 rfl ?_
  rcases zth_some hF with ⟨Er1, er1, hE⟩ | ⟨r1, er1, hF⟩
  · subst hE
    exact z_xcallV_T (n := 1) (As := [.int x1]) C X (c_X7_checkToken l hl D cI cJ cZ ab a5 a3 a6 a1 a0 B P M T K U L x1 (.inl Er1) er1) gX7_below_X7_checkToken rfl (by decide +kernel) ⟨Nat.le_of_ble_eq_true rfl, Nat.le_of_ble_eq_true rfl⟩ ⟨Nat.le_refl 1, Nat.le_refl 6⟩ 0 rfl rfl [] [] rfl rfl rfl (Nat.le_of_ble_eq_true rfl) dX7_below_2
  · refine z_xcallV_R (n := 1) (As := [.int x1]) (ws' := (zwX7 cI cJ cZ ab a5 a3 a6 a1 a0 B P M T K U L)) C X.1 (c_X7_checkToken l hl D cI cJ cZ ab a5 a3 a6 a1 a0 B P M T K U L x1 (.inr r1) er1) gX7_below_X7_checkToken rfl (by decide +kernel) ⟨Nat.le_of_ble_eq_true rfl, Nat.le_of_ble_eq_true rfl⟩ ⟨Nat.zero_le _, Nat.zero_le _⟩ 0 rfl rfl [] [] rfl rfl rfl rfl (Nat.le_of_ble_eq_true rfl) dX7_below_2 ?_
    refine z_aload_n C dX7_below_5 rfl 0 rfl ?_
    refine z_get (ref := "SecretBroker") (v := .ref (a6 0)) C hX7_below_X7 0 rfl rfl 2 (by decide) kX7_below_26 (fun _ h9 => h9) rfl dX7_below_6 ?_
    refine z_iload_n C dX7_below_9 rfl 1 rfl ?_
    obtain ⟨r2, er2, hF⟩ := zbd hF
    refine z_callV (n := 1) (As := [.int x1]) (ws' := (zwX7 cI cJ cZ ab a5 a3 a6 a1 a0 B P M T K U L)) C (c_X6_livingBelow l D cI cJ cZ a6 T x1 r2 er2) gX7_below_X6_livingBelow rfl rfl rfl (by decide +kernel) ⟨Nat.le_of_ble_eq_true rfl, Nat.le_of_ble_eq_true rfl⟩ ⟨Nat.zero_le _, Nat.zero_le _⟩ 10 rfl rfl (zwB ab a5 a3 a6 a1 a0 B ++ zwX5 cI cJ cZ a5 P ++ zwX3 cI cJ cZ a3 M) (zwX1 cI cJ cZ a1 K ++ zwX0 cI cJ cZ a0 U L) rfl rfl rfl rfl (Nat.le_of_ble_eq_true rfl) dX7_below_10 ?_
    have hu := Option.some.inj hF
    subst hu
    exact z_xiret C dX7_below_13 rfl rfl
theorem kX7_tokens_26 : Cond.fieldLink RX7 26 "SecretBroker" "tokenTable" "LSecretBroker$Tokens;" ∈ wsX7_tokens := by decide +kernel
theorem hX7_tokens_X7 : ∀ w ∈ wsX70, w ∈ wsX7_tokens := by decide +kernel
set_option maxHeartbeats 4000000 in
set_option maxRecDepth 100000 in
theorem c_X7_tokens (l : Launch) (D : va_G) (cI cJ cZ : ClassId) (ab : Nat) (a5 : Nat → Nat) (a3 : Nat → Nat) (a6 : Nat → Nat) (a1 : Nat → Nat) (a0 : Nat → Nat) (B : SS) (P : SS) (M : SS) (T : SS) (K : SS) (U : SS) (L : SL) (u : Int32) (hF : f_X7_tokens T = some u) : zM l yX7_tokens wsX7_tokens ({ frames := 1, cells := 0, slots := 0, locals := 20 }) D (zTy cI cJ cZ) [.ref ab] (zwX7 cI cJ cZ ab a5 a3 a6 a1 a0 B P M T K U L) (some (.int u)) (zwX7 cI cJ cZ ab a5 a3 a6 a1 a0 B P M T K U L) := by
  refine z_body (cc := cX7_tokens) (maxL := 1) (rty := (some .int)) (own := RX7) (lv := [(0, .ref ab)]) (by decide +kernel) rfl rfl (Nat.le_of_ble_eq_true rfl) rfl (fun p e s m args below meth c A C => ?_)
  refine z_aload_n C dX7_tokens_0 rfl 0 rfl ?_
  refine z_get (ref := "SecretBroker") (v := .ref (a6 0)) C hX7_tokens_X7 0 rfl rfl 2 (by decide) kX7_tokens_26 (fun _ h9 => h9) rfl dX7_tokens_1 ?_
  obtain ⟨r1, er1, hF⟩ := zbd hF
  refine z_callU (n := 0) (As := []) (ws' := (zwX7 cI cJ cZ ab a5 a3 a6 a1 a0 B P M T K U L)) C (c_X2_living_6 l D cI cJ cZ a6 T r1 er1) gX7_tokens_X2_living_u124X6 rfl rfl rfl rfl (by decide +kernel) ⟨Nat.le_of_ble_eq_true rfl, Nat.le_of_ble_eq_true rfl⟩ ⟨Nat.zero_le _, Nat.zero_le _⟩ 10 rfl rfl (zwB ab a5 a3 a6 a1 a0 B ++ zwX5 cI cJ cZ a5 P ++ zwX3 cI cJ cZ a3 M) (zwX1 cI cJ cZ a1 K ++ zwX0 cI cJ cZ a0 U L) rfl rfl rfl rfl (Nat.le_of_ble_eq_true rfl) dX7_tokens_4 ?_
  have hu := Option.some.inj hF
  subst hu
  exact z_iret C dX7_tokens_7 rfl rfl
theorem kX7_capabilitiesAt_10 : Cond.fieldLink RX7 10 "SecretBroker" "policyTable" "LSecretBroker$Policies;" ∈ wsX7_capabilitiesAt := by decide +kernel
theorem kX7_capabilitiesAt_26 : Cond.fieldLink RX7 26 "SecretBroker" "tokenTable" "LSecretBroker$Tokens;" ∈ wsX7_capabilitiesAt := by decide +kernel
theorem hX7_capabilitiesAt_X7 : ∀ w ∈ wsX70, w ∈ wsX7_capabilitiesAt := by decide +kernel
set_option maxHeartbeats 4000000 in
set_option maxRecDepth 100000 in
theorem c_X7_capabilitiesAt (l : Launch) (D : va_G) (cI cJ cZ : ClassId) (ab : Nat) (a5 : Nat → Nat) (a3 : Nat → Nat) (a6 : Nat → Nat) (a1 : Nat → Nat) (a0 : Nat → Nat) (B : SS) (P : SS) (M : SS) (T : SS) (K : SS) (U : SS) (L : SL) (x1 : Int32) (x2 : Int32) (u : Int32) (hF : f_X7_capabilitiesAt P T x1 x2 = some u) : zM l yX7_capabilitiesAt wsX7_capabilitiesAt ({ frames := 4, cells := 0, slots := 0, locals := 100 }) D (zTy cI cJ cZ) [.ref ab, .int x1, .int x2] (zwX7 cI cJ cZ ab a5 a3 a6 a1 a0 B P M T K U L) (some (.int u)) (zwX7 cI cJ cZ ab a5 a3 a6 a1 a0 B P M T K U L) := by
  refine z_body (cc := cX7_capabilitiesAt) (maxL := 4) (rty := (some .int)) (own := RX7) (lv := [(0, .ref ab), (1, .int x1), (2, .int x2)]) (by decide +kernel) rfl rfl (Nat.le_of_ble_eq_true rfl) rfl (fun p e s m args below meth c A C => ?_)
  refine z_iload_n C dX7_capabilitiesAt_0 rfl 1 rfl ?_
  refine z_if_ne (tgt := 7) C dX7_capabilitiesAt_1 (by decide) (fun c1 => ?_) (fun c1 => ?_)
  · have hF := zelse hF c1
    refine z_aload_n C dX7_capabilitiesAt_7 rfl 0 rfl ?_
    refine z_get (ref := "SecretBroker") (v := .ref (a5 0)) C hX7_capabilitiesAt_X7 0 rfl rfl 0 (by decide) kX7_capabilitiesAt_10 (fun _ h9 => h9) rfl dX7_capabilitiesAt_8 ?_
    refine z_aload_n C dX7_capabilitiesAt_11 rfl 0 rfl ?_
    refine z_get (ref := "SecretBroker") (v := .ref (a6 0)) C hX7_capabilitiesAt_X7 0 rfl rfl 2 (by decide) kX7_capabilitiesAt_26 (fun _ h9 => h9) rfl dX7_capabilitiesAt_12 ?_
    refine z_iload_n C dX7_capabilitiesAt_15 rfl 1 rfl ?_
    obtain ⟨r2, er2, hF⟩ := zbd hF
    refine z_callV (n := 1) (As := [.int x1]) (ws' := (zwX7 cI cJ cZ ab a5 a3 a6 a1 a0 B P M T K U L)) C (c_X6_policiesAt l D cI cJ cZ a6 T x1 r2 er2) gX7_capabilitiesAt_X6_policiesAt rfl rfl rfl (by decide +kernel) ⟨Nat.le_of_ble_eq_true rfl, Nat.le_of_ble_eq_true rfl⟩ ⟨Nat.zero_le _, Nat.zero_le _⟩ 10 rfl rfl (zwB ab a5 a3 a6 a1 a0 B ++ zwX5 cI cJ cZ a5 P ++ zwX3 cI cJ cZ a3 M) (zwX1 cI cJ cZ a1 K ++ zwX0 cI cJ cZ a0 U L) rfl rfl rfl rfl (Nat.le_of_ble_eq_true rfl) dX7_capabilitiesAt_16 ?_
    refine z_iload_n C dX7_capabilitiesAt_19 rfl 2 rfl ?_
    obtain ⟨r3, er3, hF⟩ := zbd hF
    refine z_callV (n := 2) (As := [.int r2, .int x2]) (ws' := (zwX7 cI cJ cZ ab a5 a3 a6 a1 a0 B P M T K U L)) C (c_X5_together l D cI cJ cZ a5 P r2 x2 r3 er3) gX7_capabilitiesAt_X5_together rfl rfl rfl (by decide +kernel) ⟨Nat.le_of_ble_eq_true rfl, Nat.le_of_ble_eq_true rfl⟩ ⟨Nat.zero_le _, Nat.zero_le _⟩ 1 rfl rfl (zwB ab a5 a3 a6 a1 a0 B) (zwX3 cI cJ cZ a3 M ++ zwX6 cI cJ cZ a6 T ++ zwX1 cI cJ cZ a1 K ++ zwX0 cI cJ cZ a0 U L) rfl rfl rfl rfl (Nat.le_of_ble_eq_true rfl) dX7_capabilitiesAt_20 ?_
    refine z_istore_n (lv' := [(3, .int r3), (0, .ref ab), (1, .int x1), (2, .int x2)]) C dX7_capabilitiesAt_23 rfl (by decide) rfl ?_
    refine z_iload_n C dX7_capabilitiesAt_24 rfl 0 rfl ?_
    refine z_bipush (v := 8) C dX7_capabilitiesAt_25 (by decide) ?_
    refine z_iand C dX7_capabilitiesAt_27 ?_
    refine z_if_ne (tgt := 35) C dX7_capabilitiesAt_28 (by decide) (fun c4 => ?_) (fun c4 => ?_)
    · have hF := zelse hF c4
      refine z_iconst (v := 0) C dX7_capabilitiesAt_35 (by decide) ?_
      have hu := Option.some.inj hF
      subst hu
      exact z_iret C dX7_capabilitiesAt_36 rfl rfl
    · have hF := zif hF c4
      refine z_iload_n C dX7_capabilitiesAt_31 rfl 0 rfl ?_
      refine z_goto (tgt := 36) C dX7_capabilitiesAt_32 (by decide) ?_
      have hu := Option.some.inj hF
      subst hu
      exact z_iret C dX7_capabilitiesAt_36 rfl rfl
  · have hF := zif hF c1
    refine z_bipush (v := 7) C dX7_capabilitiesAt_4 (by decide) ?_
    have hu := Option.some.inj hF
    subst hu
    exact z_iret C dX7_capabilitiesAt_6 rfl rfl
set_option maxHeartbeats 4000000 in
set_option maxRecDepth 100000 in
theorem c_X7_capabilities (l : Launch) (hl : l.stackTraces = false) (D : va_G) (cI cJ cZ : ClassId) (ab : Nat) (a5 : Nat → Nat) (a3 : Nat → Nat) (a6 : Nat → Nat) (a1 : Nat → Nat) (a0 : Nat → Nat) (B : SS) (P : SS) (M : SS) (T : SS) (K : SS) (U : SS) (L : SL) (x1 : Int32) (x2 : Int32) (u : String ⊕ Int32) (hF : f_X7_capabilities P T x1 x2 = some u) : zO l yX7_capabilities wsX7_capabilities 7 123 D (zTy cI cJ cZ) [.ref ab, .int x1, .int x2] (zwX7 cI cJ cZ ab a5 a3 a6 a1 a0 B P M T K U L) (zo (fun (v : Int32) => ((some (.int v)), (zwX7 cI cJ cZ ab a5 a3 a6 a1 a0 B P M T K U L))) u) := by
  refine z_xbody (cc := cX7_capabilities) (maxL := 3) (rty := (some .int)) (own := RX7) (lv := [(0, .ref ab), (1, .int x1), (2, .int x2)]) (by decide +kernel) rfl rfl (Nat.le_of_ble_eq_true rfl) rfl (fun p e s m args below meth c A C X => ?_)
  refine z_aload_n C dX7_capabilities_0 rfl 0 rfl ?_
  refine z_iload_n C dX7_capabilities_1 rfl 1 rfl ?_
  rcases zth_some hF with ⟨Er1, er1, hE⟩ | ⟨r1, er1, hF⟩
  · subst hE
    exact z_xcallV_T (n := 1) (As := [.int x1]) C X (c_X7_checkToken l hl D cI cJ cZ ab a5 a3 a6 a1 a0 B P M T K U L x1 (.inl Er1) er1) gX7_capabilities_X7_checkToken rfl (by decide +kernel) ⟨Nat.le_of_ble_eq_true rfl, Nat.le_of_ble_eq_true rfl⟩ ⟨Nat.le_refl 1, Nat.le_refl 6⟩ 0 rfl rfl [] [] rfl rfl rfl (Nat.le_of_ble_eq_true rfl) dX7_capabilities_2
  · refine z_xcallV_R (n := 1) (As := [.int x1]) (ws' := (zwX7 cI cJ cZ ab a5 a3 a6 a1 a0 B P M T K U L)) C X.1 (c_X7_checkToken l hl D cI cJ cZ ab a5 a3 a6 a1 a0 B P M T K U L x1 (.inr r1) er1) gX7_capabilities_X7_checkToken rfl (by decide +kernel) ⟨Nat.le_of_ble_eq_true rfl, Nat.le_of_ble_eq_true rfl⟩ ⟨Nat.zero_le _, Nat.zero_le _⟩ 0 rfl rfl [] [] rfl rfl rfl rfl (Nat.le_of_ble_eq_true rfl) dX7_capabilities_2 ?_
    refine z_iload_n C dX7_capabilities_5 rfl 2 rfl ?_
    rcases zth_some hF with ⟨Er2, er2, hE⟩ | ⟨r2, er2, hF⟩
    · subst hE
      exact z_xcallS_T (n := 1) (As := [.int x2]) C X (c_X7_checkPath l hl D cI cJ cZ x2 (.inl Er2) er2) gX7_capabilities_X7_checkPath rfl (by decide +kernel) ⟨Nat.le_of_ble_eq_true rfl, Nat.le_of_ble_eq_true rfl⟩ ⟨Nat.le_refl 1, Nat.le_refl 6⟩ rfl rfl (Nat.le_of_ble_eq_true rfl) dX7_capabilities_6
    · refine z_xcallS_R (n := 1) (As := [.int x2]) C X.1 (c_X7_checkPath l hl D cI cJ cZ x2 (.inr r2) er2) gX7_capabilities_X7_checkPath rfl (by decide +kernel) ⟨Nat.le_of_ble_eq_true rfl, Nat.le_of_ble_eq_true rfl⟩ ⟨Nat.zero_le _, Nat.zero_le _⟩ rfl rfl (Nat.le_of_ble_eq_true rfl) dX7_capabilities_6 ?_
      refine z_aload_n C dX7_capabilities_9 rfl 0 rfl ?_
      refine z_iload_n C dX7_capabilities_10 rfl 1 rfl ?_
      refine z_iload_n C dX7_capabilities_11 rfl 2 rfl ?_
      obtain ⟨r3, er3, hF⟩ := zbd hF
      refine z_callV (n := 2) (As := [.int x1, .int x2]) (ws' := (zwX7 cI cJ cZ ab a5 a3 a6 a1 a0 B P M T K U L)) C (c_X7_capabilitiesAt l D cI cJ cZ ab a5 a3 a6 a1 a0 B P M T K U L x1 x2 r3 er3) gX7_capabilities_X7_capabilitiesAt rfl rfl rfl (by decide +kernel) ⟨Nat.le_of_ble_eq_true rfl, Nat.le_of_ble_eq_true rfl⟩ ⟨Nat.zero_le _, Nat.zero_le _⟩ 0 rfl rfl [] [] rfl rfl rfl rfl (Nat.le_of_ble_eq_true rfl) dX7_capabilities_12 ?_
      have hu := Option.some.inj hF
      subst hu
      exact z_xiret C dX7_capabilities_15 rfl rfl
theorem kX7_reasonAgainst_26 : Cond.fieldLink RX7 26 "SecretBroker" "tokenTable" "LSecretBroker$Tokens;" ∈ wsX7_reasonAgainst := by decide +kernel
theorem kX7_reasonAgainst_19 : Cond.fieldLink RX7 19 "SecretBroker" "mountTable" "LSecretBroker$Mounts;" ∈ wsX7_reasonAgainst := by decide +kernel
theorem hX7_reasonAgainst_X7 : ∀ w ∈ wsX70, w ∈ wsX7_reasonAgainst := by decide +kernel
set_option maxHeartbeats 4000000 in
set_option maxRecDepth 100000 in
theorem c_X7_reasonAgainst (l : Launch) (D : va_G) (cI cJ cZ : ClassId) (ab : Nat) (a5 : Nat → Nat) (a3 : Nat → Nat) (a6 : Nat → Nat) (a1 : Nat → Nat) (a0 : Nat → Nat) (B : SS) (P : SS) (M : SS) (T : SS) (K : SS) (U : SS) (L : SL) (x1 : Int32) (x2 : Int32) (u : Int32) (hF : f_X7_reasonAgainst P M T x1 x2 = some u) : zM l yX7_reasonAgainst wsX7_reasonAgainst ({ frames := 5, cells := 0, slots := 0, locals := 123 }) D (zTy cI cJ cZ) [.ref ab, .int x1, .int x2] (zwX7 cI cJ cZ ab a5 a3 a6 a1 a0 B P M T K U L) (some (.int u)) (zwX7 cI cJ cZ ab a5 a3 a6 a1 a0 B P M T K U L) := by
  refine z_body (cc := cX7_reasonAgainst) (maxL := 3) (rty := (some .int)) (own := RX7) (lv := [(0, .ref ab), (1, .int x1), (2, .int x2)]) (by decide +kernel) rfl rfl (Nat.le_of_ble_eq_true rfl) rfl (fun p e s m args below meth c A C => ?_)
  refine z_aload_n C dX7_reasonAgainst_0 rfl 0 rfl ?_
  refine z_get (ref := "SecretBroker") (v := .ref (a6 0)) C hX7_reasonAgainst_X7 0 rfl rfl 2 (by decide) kX7_reasonAgainst_26 (fun _ h9 => h9) rfl dX7_reasonAgainst_1 ?_
  refine z_iload_n C dX7_reasonAgainst_4 rfl 1 rfl ?_
  obtain ⟨r1, er1, hF⟩ := zbd hF
  refine z_callU (n := 1) (As := [.int x1]) (ws' := (zwX7 cI cJ cZ ab a5 a3 a6 a1 a0 B P M T K U L)) C (c_X2_isOn_6 l D cI cJ cZ a6 T x1 r1 er1) gX7_reasonAgainst_X2_isOn_u158X6 rfl rfl rfl rfl (by decide +kernel) ⟨Nat.le_of_ble_eq_true rfl, Nat.le_of_ble_eq_true rfl⟩ ⟨Nat.zero_le _, Nat.zero_le _⟩ 10 rfl rfl (zwB ab a5 a3 a6 a1 a0 B ++ zwX5 cI cJ cZ a5 P ++ zwX3 cI cJ cZ a3 M) (zwX1 cI cJ cZ a1 K ++ zwX0 cI cJ cZ a0 U L) rfl rfl rfl rfl (Nat.le_of_ble_eq_true rfl) dX7_reasonAgainst_5 ?_
  refine z_if_ne (tgt := 13) C dX7_reasonAgainst_8 (by decide) (fun c2 => ?_) (fun c2 => ?_)
  · have hF := zelse hF c2
    refine z_aload_n C dX7_reasonAgainst_13 rfl 0 rfl ?_
    refine z_get (ref := "SecretBroker") (v := .ref (a6 0)) C hX7_reasonAgainst_X7 0 rfl rfl 2 (by decide) kX7_reasonAgainst_26 (fun _ h9 => h9) rfl dX7_reasonAgainst_14 ?_
    refine z_iload_n C dX7_reasonAgainst_17 rfl 1 rfl ?_
    obtain ⟨r3, er3, hF⟩ := zbd hF
    refine z_callV (n := 1) (As := [.int x1]) (ws' := (zwX7 cI cJ cZ ab a5 a3 a6 a1 a0 B P M T K U L)) C (c_X6_usesAt l D cI cJ cZ a6 T x1 r3 er3) gX7_reasonAgainst_X6_usesAt rfl rfl rfl (by decide +kernel) ⟨Nat.le_of_ble_eq_true rfl, Nat.le_of_ble_eq_true rfl⟩ ⟨Nat.zero_le _, Nat.zero_le _⟩ 10 rfl rfl (zwB ab a5 a3 a6 a1 a0 B ++ zwX5 cI cJ cZ a5 P ++ zwX3 cI cJ cZ a3 M) (zwX1 cI cJ cZ a1 K ++ zwX0 cI cJ cZ a0 U L) rfl rfl rfl rfl (Nat.le_of_ble_eq_true rfl) dX7_reasonAgainst_18 ?_
    refine z_if_ne (tgt := 26) C dX7_reasonAgainst_21 (by decide) (fun c4 => ?_) (fun c4 => ?_)
    · have hF := zelse hF c4
      refine z_aload_n C dX7_reasonAgainst_26 rfl 0 rfl ?_
      refine z_get (ref := "SecretBroker") (v := .ref (a3 0)) C hX7_reasonAgainst_X7 0 rfl rfl 1 (by decide) kX7_reasonAgainst_19 (fun _ h9 => h9) rfl dX7_reasonAgainst_27 ?_
      refine z_iload_n C dX7_reasonAgainst_30 rfl 2 rfl ?_
      obtain ⟨r5, er5, hF⟩ := zbd hF
      refine z_callV (n := 1) (As := [.int x2]) (ws' := (zwX7 cI cJ cZ ab a5 a3 a6 a1 a0 B P M T K U L)) C (c_X3_nearest l D cI cJ cZ a3 M x2 r5 er5) gX7_reasonAgainst_X3_nearest rfl rfl rfl (by decide +kernel) ⟨Nat.le_of_ble_eq_true rfl, Nat.le_of_ble_eq_true rfl⟩ ⟨Nat.zero_le _, Nat.zero_le _⟩ 6 rfl rfl (zwB ab a5 a3 a6 a1 a0 B ++ zwX5 cI cJ cZ a5 P) (zwX6 cI cJ cZ a6 T ++ zwX1 cI cJ cZ a1 K ++ zwX0 cI cJ cZ a0 U L) rfl rfl rfl rfl (Nat.le_of_ble_eq_true rfl) dX7_reasonAgainst_31 ?_
      refine z_iconst (v := (-1)) C dX7_reasonAgainst_34 (by decide) ?_
      refine z_icmp_ne (tgt := 40) C dX7_reasonAgainst_35 (by decide) (fun c6 => ?_) (fun c6 => ?_)
      · have hF := zelse hF c6
        refine z_aload_n C dX7_reasonAgainst_40 rfl 0 rfl ?_
        refine z_iload_n C dX7_reasonAgainst_41 rfl 1 rfl ?_
        refine z_iload_n C dX7_reasonAgainst_42 rfl 2 rfl ?_
        obtain ⟨r7, er7, hF⟩ := zbd hF
        refine z_callV (n := 2) (As := [.int x1, .int x2]) (ws' := (zwX7 cI cJ cZ ab a5 a3 a6 a1 a0 B P M T K U L)) C (c_X7_capabilitiesAt l D cI cJ cZ ab a5 a3 a6 a1 a0 B P M T K U L x1 x2 r7 er7) gX7_reasonAgainst_X7_capabilitiesAt rfl rfl rfl (by decide +kernel) ⟨Nat.le_of_ble_eq_true rfl, Nat.le_of_ble_eq_true rfl⟩ ⟨Nat.zero_le _, Nat.zero_le _⟩ 0 rfl rfl [] [] rfl rfl rfl rfl (Nat.le_of_ble_eq_true rfl) dX7_reasonAgainst_43 ?_
        refine z_iconst (v := 1) C dX7_reasonAgainst_46 (by decide) ?_
        refine z_iand C dX7_reasonAgainst_47 ?_
        refine z_if_ne (tgt := 55) C dX7_reasonAgainst_48 (by decide) (fun c8 => ?_) (fun c8 => ?_)
        · have hF := zelse hF c8
          refine z_iconst (v := 0) C dX7_reasonAgainst_55 (by decide) ?_
          have hu := Option.some.inj hF
          subst hu
          exact z_iret C dX7_reasonAgainst_56 rfl rfl
        · have hF := zif hF c8
          refine z_iconst (v := 4) C dX7_reasonAgainst_51 (by decide) ?_
          refine z_goto (tgt := 56) C dX7_reasonAgainst_52 (by decide) ?_
          have hu := Option.some.inj hF
          subst hu
          exact z_iret C dX7_reasonAgainst_56 rfl rfl
      · have hF := zif hF c6
        refine z_iconst (v := 3) C dX7_reasonAgainst_38 (by decide) ?_
        have hu := Option.some.inj hF
        subst hu
        exact z_iret C dX7_reasonAgainst_39 rfl rfl
    · have hF := zif hF c4
      refine z_iconst (v := 2) C dX7_reasonAgainst_24 (by decide) ?_
      have hu := Option.some.inj hF
      subst hu
      exact z_iret C dX7_reasonAgainst_25 rfl rfl
  · have hF := zif hF c2
    refine z_iconst (v := 1) C dX7_reasonAgainst_11 (by decide) ?_
    have hu := Option.some.inj hF
    subst hu
    exact z_iret C dX7_reasonAgainst_12 rfl rfl
theorem kX7_give_19 : Cond.fieldLink RX7 19 "SecretBroker" "mountTable" "LSecretBroker$Mounts;" ∈ wsX7_give := by decide +kernel
theorem kX7_give_44 : Cond.fieldLink RX7 44 "SecretBroker" "now" "I" ∈ wsX7_give := by decide +kernel
theorem kX7_give_33 : Cond.fieldLink RX7 33 "SecretBroker" "credentialTable" "LSecretBroker$Credentials;" ∈ wsX7_give := by decide +kernel
theorem hX7_give_X7 : ∀ w ∈ wsX70, w ∈ wsX7_give := by decide +kernel
set_option maxHeartbeats 4000000 in
set_option maxRecDepth 100000 in
theorem c_X7_give (l : Launch) (D : va_G) (cI cJ cZ : ClassId) (ab : Nat) (a5 : Nat → Nat) (a3 : Nat → Nat) (a6 : Nat → Nat) (a1 : Nat → Nat) (a0 : Nat → Nat) (B : SS) (P : SS) (M : SS) (T : SS) (K : SS) (U : SS) (L : SL) (x1 : Int32) (x2 : Int32) (u : Int32 × SS) (hF : f_X7_give B M K x1 x2 = some u) : zM l yX7_give wsX7_give ({ frames := 3, cells := 0, slots := 0, locals := 68 }) D (zTy cI cJ cZ) [.ref ab, .int x1, .int x2] (zwX7 cI cJ cZ ab a5 a3 a6 a1 a0 B P M T K U L) (some (.int u.1)) (zwX7 cI cJ cZ ab a5 a3 a6 a1 a0 B P M T u.2 U L) := by
  refine z_body (cc := cX7_give) (maxL := 6) (rty := (some .int)) (own := RX7) (lv := [(0, .ref ab), (1, .int x1), (2, .int x2)]) (by decide +kernel) rfl rfl (Nat.le_of_ble_eq_true rfl) rfl (fun p e s m args below meth c A C => ?_)
  refine z_aload_n C dX7_give_0 rfl 0 rfl ?_
  refine z_get (ref := "SecretBroker") (v := .ref (a3 0)) C hX7_give_X7 0 rfl rfl 1 (by decide) kX7_give_19 (fun _ h9 => h9) rfl dX7_give_1 ?_
  refine z_iload_n C dX7_give_4 rfl 2 rfl ?_
  obtain ⟨r1, er1, hF⟩ := zbd hF
  refine z_callV (n := 1) (As := [.int x2]) (ws' := (zwX7 cI cJ cZ ab a5 a3 a6 a1 a0 B P M T K U L)) C (c_X3_nearest l D cI cJ cZ a3 M x2 r1 er1) gX7_give_X3_nearest rfl rfl rfl (by decide +kernel) ⟨Nat.le_of_ble_eq_true rfl, Nat.le_of_ble_eq_true rfl⟩ ⟨Nat.zero_le _, Nat.zero_le _⟩ 6 rfl rfl (zwB ab a5 a3 a6 a1 a0 B ++ zwX5 cI cJ cZ a5 P) (zwX6 cI cJ cZ a6 T ++ zwX1 cI cJ cZ a1 K ++ zwX0 cI cJ cZ a0 U L) rfl rfl rfl rfl (Nat.le_of_ble_eq_true rfl) dX7_give_5 ?_
  refine z_istore_n (lv' := [(3, .int r1), (0, .ref ab), (1, .int x1), (2, .int x2)]) C dX7_give_8 rfl (by decide) rfl ?_
  refine z_aload_n C dX7_give_9 rfl 1 rfl ?_
  refine z_get (ref := "SecretBroker") (v := .int (B 5 0)) C hX7_give_X7 0 rfl rfl 5 (by decide) kX7_give_44 (fun _ h9 => h9) rfl dX7_give_10 ?_
  refine z_aload_n C dX7_give_13 rfl 1 rfl ?_
  refine z_get (ref := "SecretBroker") (v := .ref (a3 0)) C hX7_give_X7 0 rfl rfl 1 (by decide) kX7_give_19 (fun _ h9 => h9) rfl dX7_give_14 ?_
  refine z_iload_n C dX7_give_17 rfl 0 rfl ?_
  obtain ⟨r2, er2, hF⟩ := zbd hF
  refine z_callV (n := 1) (As := [.int r1]) (ws' := (zwX7 cI cJ cZ ab a5 a3 a6 a1 a0 B P M T K U L)) C (c_X3_minutesAt l D cI cJ cZ a3 M r1 r2 er2) gX7_give_X3_minutesAt rfl rfl rfl (by decide +kernel) ⟨Nat.le_of_ble_eq_true rfl, Nat.le_of_ble_eq_true rfl⟩ ⟨Nat.zero_le _, Nat.zero_le _⟩ 6 rfl rfl (zwB ab a5 a3 a6 a1 a0 B ++ zwX5 cI cJ cZ a5 P) (zwX6 cI cJ cZ a6 T ++ zwX1 cI cJ cZ a1 K ++ zwX0 cI cJ cZ a0 U L) rfl rfl rfl rfl (Nat.le_of_ble_eq_true rfl) dX7_give_18 ?_
  refine z_iadd C dX7_give_21 ?_
  refine z_istore (lv' := [(4, .int ((B 5 0) + r2)), (3, .int r1), (0, .ref ab), (1, .int x1), (2, .int x2)]) C dX7_give_22 (by decide) rfl ?_
  refine z_aload_n C dX7_give_24 rfl 2 rfl ?_
  refine z_get (ref := "SecretBroker") (v := .ref (a1 0)) C hX7_give_X7 0 rfl rfl 3 (by decide) kX7_give_33 (fun _ h9 => h9) rfl dX7_give_25 ?_
  refine z_aload_n C dX7_give_28 rfl 2 rfl ?_
  refine z_get (ref := "SecretBroker") (v := .int (B 5 0)) C hX7_give_X7 0 rfl rfl 5 (by decide) kX7_give_44 (fun _ h9 => h9) rfl dX7_give_29 ?_
  refine z_iload C dX7_give_32 0 rfl ?_
  refine z_aload_n C dX7_give_34 rfl 2 rfl ?_
  refine z_get (ref := "SecretBroker") (v := .ref (a3 0)) C hX7_give_X7 0 rfl rfl 1 (by decide) kX7_give_19 (fun _ h9 => h9) rfl dX7_give_35 ?_
  refine z_iload_n C dX7_give_38 rfl 1 rfl ?_
  obtain ⟨r3, er3, hF⟩ := zbd hF
  refine z_callV (n := 1) (As := [.int r1]) (ws' := (zwX7 cI cJ cZ ab a5 a3 a6 a1 a0 B P M T K U L)) C (c_X3_boundAt l D cI cJ cZ a3 M r1 r3 er3) gX7_give_X3_boundAt rfl rfl rfl (by decide +kernel) ⟨Nat.le_of_ble_eq_true rfl, Nat.le_of_ble_eq_true rfl⟩ ⟨Nat.zero_le _, Nat.zero_le _⟩ 6 rfl rfl (zwB ab a5 a3 a6 a1 a0 B ++ zwX5 cI cJ cZ a5 P) (zwX6 cI cJ cZ a6 T ++ zwX1 cI cJ cZ a1 K ++ zwX0 cI cJ cZ a0 U L) rfl rfl rfl rfl (Nat.le_of_ble_eq_true rfl) dX7_give_39 ?_
  obtain ⟨r4, er4, hF⟩ := zbd hF
  refine z_callU (n := 3) (As := [.int (B 5 0), .int ((B 5 0) + r2), .int r3]) (ws' := (zwX7 cI cJ cZ ab a5 a3 a6 a1 a0 B P M T r4.2 U L)) C (c_X2_add_1 l D cI cJ cZ a1 K (B 5 0) ((B 5 0) + r2) r3 r4 er4) gX7_give_X2_add_u286X1 rfl rfl rfl rfl (by decide +kernel) ⟨Nat.le_of_ble_eq_true rfl, Nat.le_of_ble_eq_true rfl⟩ ⟨Nat.zero_le _, Nat.zero_le _⟩ 18 rfl rfl (zwB ab a5 a3 a6 a1 a0 B ++ zwX5 cI cJ cZ a5 P ++ zwX3 cI cJ cZ a3 M ++ zwX6 cI cJ cZ a6 T) (zwX0 cI cJ cZ a0 U L) rfl rfl rfl rfl (Nat.le_of_ble_eq_true rfl) dX7_give_42 ?_
  refine z_istore (lv' := [(5, .int r4.1), (4, .int ((B 5 0) + r2)), (3, .int r1), (0, .ref ab), (1, .int x1), (2, .int x2)]) C dX7_give_45 (by decide) rfl ?_
  refine z_aload_n C dX7_give_47 rfl 3 rfl ?_
  refine z_get (ref := "SecretBroker") (v := .ref (a1 0)) C hX7_give_X7 0 rfl rfl 3 (by decide) kX7_give_33 (fun _ h9 => h9) rfl dX7_give_48 ?_
  refine z_iload C dX7_give_51 0 rfl ?_
  refine z_iload_n C dX7_give_53 rfl 4 rfl ?_
  refine z_iload_n C dX7_give_54 rfl 5 rfl ?_
  obtain ⟨r5, er5, hF⟩ := zbd hF
  refine z_callV (n := 3) (As := [.int r4.1, .int x1, .int x2]) (ws' := (zwX7 cI cJ cZ ab a5 a3 a6 a1 a0 B P M T r5 U L)) C (c_X1_describe l D cI cJ cZ a1 r4.2 r4.1 x1 x2 r5 er5) gX7_give_X1_describe rfl rfl rfl (by decide +kernel) ⟨Nat.le_of_ble_eq_true rfl, Nat.le_of_ble_eq_true rfl⟩ ⟨Nat.zero_le _, Nat.zero_le _⟩ 18 rfl rfl (zwB ab a5 a3 a6 a1 a0 B ++ zwX5 cI cJ cZ a5 P ++ zwX3 cI cJ cZ a3 M ++ zwX6 cI cJ cZ a6 T) (zwX0 cI cJ cZ a0 U L) rfl rfl rfl rfl (Nat.le_of_ble_eq_true rfl) dX7_give_55 ?_
  refine z_iload C dX7_give_58 0 rfl ?_
  have hu := Option.some.inj hF
  subst hu
  exact z_iret C dX7_give_60 rfl rfl
theorem kX7_request_26 : Cond.fieldLink RX7 26 "SecretBroker" "tokenTable" "LSecretBroker$Tokens;" ∈ wsX7_request := by decide +kernel
theorem kX7_request_40 : Cond.fieldLink RX7 40 "SecretBroker" "audit" "LSecretBroker$Audit;" ∈ wsX7_request := by decide +kernel
theorem kX7_request_44 : Cond.fieldLink RX7 44 "SecretBroker" "now" "I" ∈ wsX7_request := by decide +kernel
theorem kX7_request_33 : Cond.fieldLink RX7 33 "SecretBroker" "credentialTable" "LSecretBroker$Credentials;" ∈ wsX7_request := by decide +kernel
theorem kX7_request_52 : Cond.classLink RX7 52 "java/lang/IllegalStateException" ∈ wsX7_request := by decide +kernel
theorem kX7_request_95052 : Cond.initialized "java/lang/IllegalStateException" ∈ wsX7_request := by decide +kernel
theorem hX7_request_X7 : ∀ w ∈ wsX70, w ∈ wsX7_request := by decide +kernel
set_option maxHeartbeats 4000000 in
set_option maxRecDepth 100000 in
theorem c_X7_request (l : Launch) (hl : l.stackTraces = false) (D : va_G) (cI cJ cZ : ClassId) (ab : Nat) (a5 : Nat → Nat) (a3 : Nat → Nat) (a6 : Nat → Nat) (a1 : Nat → Nat) (a0 : Nat → Nat) (B : SS) (P : SS) (M : SS) (T : SS) (K : SS) (U : SS) (L : SL) (x1 : Int32) (x2 : Int32) (u : String ⊕ (Int32 × SS × SS × SS × SL)) (hF : f_X7_request B P M T K U L x1 x2 = some u) : zO l yX7_request wsX7_request 7 145 D (zTy cI cJ cZ) [.ref ab, .int x1, .int x2] (zwX7 cI cJ cZ ab a5 a3 a6 a1 a0 B P M T K U L) (zo (fun (v : (Int32 × SS × SS × SS × SL)) => ((some (.int v.1)), (zwX7 cI cJ cZ ab a5 a3 a6 a1 a0 B P M v.2.1 v.2.2.1 v.2.2.2.1 v.2.2.2.2))) u) := by
  refine z_xbody (cc := cX7_request) (maxL := 5) (rty := (some .int)) (own := RX7) (lv := [(0, .ref ab), (1, .int x1), (2, .int x2)]) (by decide +kernel) rfl rfl (Nat.le_of_ble_eq_true rfl) rfl (fun p e s m args below meth c A C X => ?_)
  refine z_aload_n C dX7_request_0 rfl 0 rfl ?_
  refine z_iload_n C dX7_request_1 rfl 1 rfl ?_
  rcases zth_some hF with ⟨Er1, er1, hE⟩ | ⟨r1, er1, hF⟩
  · subst hE
    exact z_xcallV_T (n := 1) (As := [.int x1]) C X (c_X7_checkToken l hl D cI cJ cZ ab a5 a3 a6 a1 a0 B P M T K U L x1 (.inl Er1) er1) gX7_request_X7_checkToken rfl (by decide +kernel) ⟨Nat.le_of_ble_eq_true rfl, Nat.le_of_ble_eq_true rfl⟩ ⟨Nat.le_refl 1, Nat.le_refl 6⟩ 0 rfl rfl [] [] rfl rfl rfl (Nat.le_of_ble_eq_true rfl) dX7_request_2
  · refine z_xcallV_R (n := 1) (As := [.int x1]) (ws' := (zwX7 cI cJ cZ ab a5 a3 a6 a1 a0 B P M T K U L)) C X.1 (c_X7_checkToken l hl D cI cJ cZ ab a5 a3 a6 a1 a0 B P M T K U L x1 (.inr r1) er1) gX7_request_X7_checkToken rfl (by decide +kernel) ⟨Nat.le_of_ble_eq_true rfl, Nat.le_of_ble_eq_true rfl⟩ ⟨Nat.zero_le _, Nat.zero_le _⟩ 0 rfl rfl [] [] rfl rfl rfl rfl (Nat.le_of_ble_eq_true rfl) dX7_request_2 ?_
    refine z_iload_n C dX7_request_5 rfl 2 rfl ?_
    rcases zth_some hF with ⟨Er2, er2, hE⟩ | ⟨r2, er2, hF⟩
    · subst hE
      exact z_xcallS_T (n := 1) (As := [.int x2]) C X (c_X7_checkPath l hl D cI cJ cZ x2 (.inl Er2) er2) gX7_request_X7_checkPath rfl (by decide +kernel) ⟨Nat.le_of_ble_eq_true rfl, Nat.le_of_ble_eq_true rfl⟩ ⟨Nat.le_refl 1, Nat.le_refl 6⟩ rfl rfl (Nat.le_of_ble_eq_true rfl) dX7_request_6
    · refine z_xcallS_R (n := 1) (As := [.int x2]) C X.1 (c_X7_checkPath l hl D cI cJ cZ x2 (.inr r2) er2) gX7_request_X7_checkPath rfl (by decide +kernel) ⟨Nat.le_of_ble_eq_true rfl, Nat.le_of_ble_eq_true rfl⟩ ⟨Nat.zero_le _, Nat.zero_le _⟩ rfl rfl (Nat.le_of_ble_eq_true rfl) dX7_request_6 ?_
      refine z_aload_n C dX7_request_9 rfl 0 rfl ?_
      refine z_iload_n C dX7_request_10 rfl 1 rfl ?_
      refine z_iload_n C dX7_request_11 rfl 2 rfl ?_
      obtain ⟨r3, er3, hF⟩ := zbd hF
      refine z_callV (n := 2) (As := [.int x1, .int x2]) (ws' := (zwX7 cI cJ cZ ab a5 a3 a6 a1 a0 B P M T K U L)) C (c_X7_reasonAgainst l D cI cJ cZ ab a5 a3 a6 a1 a0 B P M T K U L x1 x2 r3 er3) gX7_request_X7_reasonAgainst rfl rfl rfl (by decide +kernel) ⟨Nat.le_of_ble_eq_true rfl, Nat.le_of_ble_eq_true rfl⟩ ⟨Nat.zero_le _, Nat.zero_le _⟩ 0 rfl rfl [] [] rfl rfl rfl rfl (Nat.le_of_ble_eq_true rfl) dX7_request_12 ?_
      refine z_istore_n (lv' := [(3, .int r3), (0, .ref ab), (1, .int x1), (2, .int x2)]) C dX7_request_15 rfl (by decide) rfl ?_
      refine z_iload_n C dX7_request_16 rfl 0 rfl ?_
      refine z_if_ne (tgt := 52) C dX7_request_17 (by decide) (fun c4 => ?_) (fun c4 => ?_)
      · have hF := zelse hF c4
        refine z_aload_n C dX7_request_52 rfl 1 rfl ?_
        refine z_get (ref := "SecretBroker") (v := .ref (a6 0)) C hX7_request_X7 0 rfl rfl 2 (by decide) kX7_request_26 (fun _ h9 => h9) rfl dX7_request_53 ?_
        refine z_iload_n C dX7_request_56 rfl 2 rfl ?_
        obtain ⟨r5, er5, hF⟩ := zbd hF
        refine z_callV (n := 1) (As := [.int x1]) (ws' := (zwX7 cI cJ cZ ab a5 a3 a6 a1 a0 B P M r5 K U L)) C (c_X6_takeUse l D cI cJ cZ a6 T x1 r5 er5) gX7_request_X6_takeUse rfl rfl rfl (by decide +kernel) ⟨Nat.le_of_ble_eq_true rfl, Nat.le_of_ble_eq_true rfl⟩ ⟨Nat.zero_le _, Nat.zero_le _⟩ 10 rfl rfl (zwB ab a5 a3 a6 a1 a0 B ++ zwX5 cI cJ cZ a5 P ++ zwX3 cI cJ cZ a3 M) (zwX1 cI cJ cZ a1 K ++ zwX0 cI cJ cZ a0 U L) rfl rfl rfl rfl (Nat.le_of_ble_eq_true rfl) dX7_request_57 ?_
        refine z_iload_n C dX7_request_60 rfl 0 rfl ?_
        refine z_if_eq (tgt := 80) C dX7_request_61 (by decide) (fun c6 => ?_) (fun c6 => ?_)
        · have hF := zif hF c6
          refine z_aload_n C dX7_request_80 rfl 1 rfl ?_
          refine z_iload_n C dX7_request_81 rfl 2 rfl ?_
          refine z_iload_n C dX7_request_82 rfl 3 rfl ?_
          obtain ⟨r7, er7, hF⟩ := zbd hF
          refine z_callV (n := 2) (As := [.int x1, .int x2]) (ws' := (zwX7 cI cJ cZ ab a5 a3 a6 a1 a0 B P M r5 r7.2 U L)) C (c_X7_give l D cI cJ cZ ab a5 a3 a6 a1 a0 B P M r5 K U L x1 x2 r7 er7) gX7_request_X7_give rfl rfl rfl (by decide +kernel) ⟨Nat.le_of_ble_eq_true rfl, Nat.le_of_ble_eq_true rfl⟩ ⟨Nat.zero_le _, Nat.zero_le _⟩ 0 rfl rfl [] [] rfl rfl rfl rfl (Nat.le_of_ble_eq_true rfl) dX7_request_83 ?_
          refine z_istore (lv' := [(4, .int r7.1), (3, .int r3), (0, .ref ab), (1, .int x1), (2, .int x2)]) C dX7_request_86 (by decide) rfl ?_
          refine z_aload_n C dX7_request_88 rfl 2 rfl ?_
          refine z_get (ref := "SecretBroker") (v := .ref (a0 0)) C hX7_request_X7 0 rfl rfl 4 (by decide) kX7_request_40 (fun _ h9 => h9) rfl dX7_request_89 ?_
          refine z_iconst (v := 2) C dX7_request_92 (by decide) ?_
          refine z_iload_n C dX7_request_93 rfl 3 rfl ?_
          refine z_iload C dX7_request_94 0 rfl ?_
          refine z_aload_n C dX7_request_96 rfl 2 rfl ?_
          refine z_get (ref := "SecretBroker") (v := .int (B 5 0)) C hX7_request_X7 0 rfl rfl 5 (by decide) kX7_request_44 (fun _ h9 => h9) rfl dX7_request_97 ?_
          obtain ⟨r8, er8, hF⟩ := zbd hF
          refine z_callV (n := 4) (As := [.int 2, .int x1, .int r7.1, .int (B 5 0)]) (ws' := (zwX7 cI cJ cZ ab a5 a3 a6 a1 a0 B P M r5 r7.2 r8.1 r8.2)) C (c_X0_write l D cI cJ cZ a0 U L 2 x1 r7.1 (B 5 0) r8 er8) gX7_request_X0_write rfl rfl rfl (by decide +kernel) ⟨Nat.le_of_ble_eq_true rfl, Nat.le_of_ble_eq_true rfl⟩ ⟨Nat.zero_le _, Nat.zero_le _⟩ 25 rfl rfl (zwB ab a5 a3 a6 a1 a0 B ++ zwX5 cI cJ cZ a5 P ++ zwX3 cI cJ cZ a3 M ++ zwX6 cI cJ cZ a6 r5 ++ zwX1 cI cJ cZ a1 r7.2) [] rfl rfl rfl rfl (Nat.le_of_ble_eq_true rfl) dX7_request_100 ?_
          refine z_iload C dX7_request_103 0 rfl ?_
          have hu := Option.some.inj hF
          subst hu
          exact z_xiret C dX7_request_105 rfl rfl
        · have hF := zelse hF c6
          refine z_aload_n C dX7_request_64 rfl 1 rfl ?_
          refine z_get (ref := "SecretBroker") (v := .ref (a0 0)) C hX7_request_X7 0 rfl rfl 4 (by decide) kX7_request_40 (fun _ h9 => h9) rfl dX7_request_65 ?_
          refine z_iconst (v := 3) C dX7_request_68 (by decide) ?_
          refine z_iload_n C dX7_request_69 rfl 2 rfl ?_
          refine z_iload_n C dX7_request_70 rfl 0 rfl ?_
          refine z_aload_n C dX7_request_71 rfl 1 rfl ?_
          refine z_get (ref := "SecretBroker") (v := .int (B 5 0)) C hX7_request_X7 0 rfl rfl 5 (by decide) kX7_request_44 (fun _ h9 => h9) rfl dX7_request_72 ?_
          obtain ⟨r9, er9, hF⟩ := zbd hF
          refine z_callV (n := 4) (As := [.int 3, .int x1, .int r3, .int (B 5 0)]) (ws' := (zwX7 cI cJ cZ ab a5 a3 a6 a1 a0 B P M r5 K r9.1 r9.2)) C (c_X0_write l D cI cJ cZ a0 U L 3 x1 r3 (B 5 0) r9 er9) gX7_request_X0_write rfl rfl rfl (by decide +kernel) ⟨Nat.le_of_ble_eq_true rfl, Nat.le_of_ble_eq_true rfl⟩ ⟨Nat.zero_le _, Nat.zero_le _⟩ 25 rfl rfl (zwB ab a5 a3 a6 a1 a0 B ++ zwX5 cI cJ cZ a5 P ++ zwX3 cI cJ cZ a3 M ++ zwX6 cI cJ cZ a6 r5 ++ zwX1 cI cJ cZ a1 K) [] rfl rfl rfl rfl (Nat.le_of_ble_eq_true rfl) dX7_request_75 ?_
          refine z_iconst (v := (-1)) C dX7_request_78 (by decide) ?_
          have hu := Option.some.inj hF
          subst hu
          exact z_xiret C dX7_request_79 rfl rfl
      · have hF := zif hF c4
        refine z_aload_n C dX7_request_20 rfl 1 rfl ?_
        refine z_get (ref := "SecretBroker") (v := .ref (a1 0)) C hX7_request_X7 0 rfl rfl 3 (by decide) kX7_request_33 (fun _ h9 => h9) rfl dX7_request_21 ?_
        obtain ⟨r10, er10, hF⟩ := zbd hF
        refine z_callU (n := 0) (As := []) (ws' := (zwX7 cI cJ cZ ab a5 a3 a6 a1 a0 B P M T K U L)) C (c_X2_living_1 l D cI cJ cZ a1 K r10 er10) gX7_request_X2_living_u177X1 rfl rfl rfl rfl (by decide +kernel) ⟨Nat.le_of_ble_eq_true rfl, Nat.le_of_ble_eq_true rfl⟩ ⟨Nat.zero_le _, Nat.zero_le _⟩ 18 rfl rfl (zwB ab a5 a3 a6 a1 a0 B ++ zwX5 cI cJ cZ a5 P ++ zwX3 cI cJ cZ a3 M ++ zwX6 cI cJ cZ a6 T) (zwX0 cI cJ cZ a0 U L) rfl rfl rfl rfl (Nat.le_of_ble_eq_true rfl) dX7_request_24 ?_
        refine z_bipush (v := 40) C dX7_request_27 (by decide) ?_
        refine z_icmp_ge (tgt := 42) C dX7_request_29 (by decide) (fun c11 => ?_) (fun c11 => ?_)
        · have hF := zif hF c11
          have hu := Option.some.inj hF
          subst hu
          exact z_throw (E := "java/lang/IllegalStateException") (text := "40 credentials are alive") C X hl (by decide +kernel) kX7_request_52 kX7_request_95052 (by decide +kernel) (fun w h => List.mem_cons_of_mem _ (List.mem_append_left _ (List.mem_append_left _ (List.mem_append_right _ h)))) zbad_ISE X.1.2.2.1.1.1 zgood_ISE dX7_request_42 dX7_request_45 dX7_request_46 dX7_request_48 dX7_request_51 (Nat.le_of_ble_eq_true rfl) (Nat.le_of_ble_eq_true rfl)
        · have hF := zelse hF c11
          refine z_aload_n C dX7_request_32 rfl 1 rfl ?_
          refine z_get (ref := "SecretBroker") (v := .ref (a1 0)) C hX7_request_X7 0 rfl rfl 3 (by decide) kX7_request_33 (fun _ h9 => h9) rfl dX7_request_33 ?_
          obtain ⟨r12, er12, hF⟩ := zbd hF
          refine z_callU (n := 0) (As := []) (ws' := (zwX7 cI cJ cZ ab a5 a3 a6 a1 a0 B P M T K U L)) C (c_X2_isFull_1 l D cI cJ cZ a1 K r12 er12) gX7_request_X2_isFull_u178X1 rfl rfl rfl rfl (by decide +kernel) ⟨Nat.le_of_ble_eq_true rfl, Nat.le_of_ble_eq_true rfl⟩ ⟨Nat.zero_le _, Nat.zero_le _⟩ 18 rfl rfl (zwB ab a5 a3 a6 a1 a0 B ++ zwX5 cI cJ cZ a5 P ++ zwX3 cI cJ cZ a3 M ++ zwX6 cI cJ cZ a6 T) (zwX0 cI cJ cZ a0 U L) rfl rfl rfl rfl (Nat.le_of_ble_eq_true rfl) dX7_request_36 ?_
          refine z_if_eq (tgt := 52) C dX7_request_39 (by decide) (fun c13 => ?_) (fun c13 => ?_)
          · have hF := zif hF c13
            refine z_aload_n C dX7_request_52 rfl 1 rfl ?_
            refine z_get (ref := "SecretBroker") (v := .ref (a6 0)) C hX7_request_X7 0 rfl rfl 2 (by decide) kX7_request_26 (fun _ h9 => h9) rfl dX7_request_53 ?_
            refine z_iload_n C dX7_request_56 rfl 2 rfl ?_
            obtain ⟨r14, er14, hF⟩ := zbd hF
            refine z_callV (n := 1) (As := [.int x1]) (ws' := (zwX7 cI cJ cZ ab a5 a3 a6 a1 a0 B P M r14 K U L)) C (c_X6_takeUse l D cI cJ cZ a6 T x1 r14 er14) gX7_request_X6_takeUse rfl rfl rfl (by decide +kernel) ⟨Nat.le_of_ble_eq_true rfl, Nat.le_of_ble_eq_true rfl⟩ ⟨Nat.zero_le _, Nat.zero_le _⟩ 10 rfl rfl (zwB ab a5 a3 a6 a1 a0 B ++ zwX5 cI cJ cZ a5 P ++ zwX3 cI cJ cZ a3 M) (zwX1 cI cJ cZ a1 K ++ zwX0 cI cJ cZ a0 U L) rfl rfl rfl rfl (Nat.le_of_ble_eq_true rfl) dX7_request_57 ?_
            refine z_iload_n C dX7_request_60 rfl 0 rfl ?_
            refine z_if_eq (tgt := 80) C dX7_request_61 (by decide) (fun c15 => ?_) (fun c15 => ?_)
            · have hF := zif hF c15
              refine z_aload_n C dX7_request_80 rfl 1 rfl ?_
              refine z_iload_n C dX7_request_81 rfl 2 rfl ?_
              refine z_iload_n C dX7_request_82 rfl 3 rfl ?_
              obtain ⟨r16, er16, hF⟩ := zbd hF
              refine z_callV (n := 2) (As := [.int x1, .int x2]) (ws' := (zwX7 cI cJ cZ ab a5 a3 a6 a1 a0 B P M r14 r16.2 U L)) C (c_X7_give l D cI cJ cZ ab a5 a3 a6 a1 a0 B P M r14 K U L x1 x2 r16 er16) gX7_request_X7_give rfl rfl rfl (by decide +kernel) ⟨Nat.le_of_ble_eq_true rfl, Nat.le_of_ble_eq_true rfl⟩ ⟨Nat.zero_le _, Nat.zero_le _⟩ 0 rfl rfl [] [] rfl rfl rfl rfl (Nat.le_of_ble_eq_true rfl) dX7_request_83 ?_
              refine z_istore (lv' := [(4, .int r16.1), (3, .int r3), (0, .ref ab), (1, .int x1), (2, .int x2)]) C dX7_request_86 (by decide) rfl ?_
              refine z_aload_n C dX7_request_88 rfl 2 rfl ?_
              refine z_get (ref := "SecretBroker") (v := .ref (a0 0)) C hX7_request_X7 0 rfl rfl 4 (by decide) kX7_request_40 (fun _ h9 => h9) rfl dX7_request_89 ?_
              refine z_iconst (v := 2) C dX7_request_92 (by decide) ?_
              refine z_iload_n C dX7_request_93 rfl 3 rfl ?_
              refine z_iload C dX7_request_94 0 rfl ?_
              refine z_aload_n C dX7_request_96 rfl 2 rfl ?_
              refine z_get (ref := "SecretBroker") (v := .int (B 5 0)) C hX7_request_X7 0 rfl rfl 5 (by decide) kX7_request_44 (fun _ h9 => h9) rfl dX7_request_97 ?_
              obtain ⟨r17, er17, hF⟩ := zbd hF
              refine z_callV (n := 4) (As := [.int 2, .int x1, .int r16.1, .int (B 5 0)]) (ws' := (zwX7 cI cJ cZ ab a5 a3 a6 a1 a0 B P M r14 r16.2 r17.1 r17.2)) C (c_X0_write l D cI cJ cZ a0 U L 2 x1 r16.1 (B 5 0) r17 er17) gX7_request_X0_write rfl rfl rfl (by decide +kernel) ⟨Nat.le_of_ble_eq_true rfl, Nat.le_of_ble_eq_true rfl⟩ ⟨Nat.zero_le _, Nat.zero_le _⟩ 25 rfl rfl (zwB ab a5 a3 a6 a1 a0 B ++ zwX5 cI cJ cZ a5 P ++ zwX3 cI cJ cZ a3 M ++ zwX6 cI cJ cZ a6 r14 ++ zwX1 cI cJ cZ a1 r16.2) [] rfl rfl rfl rfl (Nat.le_of_ble_eq_true rfl) dX7_request_100 ?_
              refine z_iload C dX7_request_103 0 rfl ?_
              have hu := Option.some.inj hF
              subst hu
              exact z_xiret C dX7_request_105 rfl rfl
            · have hF := zelse hF c15
              refine z_aload_n C dX7_request_64 rfl 1 rfl ?_
              refine z_get (ref := "SecretBroker") (v := .ref (a0 0)) C hX7_request_X7 0 rfl rfl 4 (by decide) kX7_request_40 (fun _ h9 => h9) rfl dX7_request_65 ?_
              refine z_iconst (v := 3) C dX7_request_68 (by decide) ?_
              refine z_iload_n C dX7_request_69 rfl 2 rfl ?_
              refine z_iload_n C dX7_request_70 rfl 0 rfl ?_
              refine z_aload_n C dX7_request_71 rfl 1 rfl ?_
              refine z_get (ref := "SecretBroker") (v := .int (B 5 0)) C hX7_request_X7 0 rfl rfl 5 (by decide) kX7_request_44 (fun _ h9 => h9) rfl dX7_request_72 ?_
              obtain ⟨r18, er18, hF⟩ := zbd hF
              refine z_callV (n := 4) (As := [.int 3, .int x1, .int r3, .int (B 5 0)]) (ws' := (zwX7 cI cJ cZ ab a5 a3 a6 a1 a0 B P M r14 K r18.1 r18.2)) C (c_X0_write l D cI cJ cZ a0 U L 3 x1 r3 (B 5 0) r18 er18) gX7_request_X0_write rfl rfl rfl (by decide +kernel) ⟨Nat.le_of_ble_eq_true rfl, Nat.le_of_ble_eq_true rfl⟩ ⟨Nat.zero_le _, Nat.zero_le _⟩ 25 rfl rfl (zwB ab a5 a3 a6 a1 a0 B ++ zwX5 cI cJ cZ a5 P ++ zwX3 cI cJ cZ a3 M ++ zwX6 cI cJ cZ a6 r14 ++ zwX1 cI cJ cZ a1 K) [] rfl rfl rfl rfl (Nat.le_of_ble_eq_true rfl) dX7_request_75 ?_
              refine z_iconst (v := (-1)) C dX7_request_78 (by decide) ?_
              have hu := Option.some.inj hF
              subst hu
              exact z_xiret C dX7_request_79 rfl rfl
          · have hF := zelse hF c13
            have hu := Option.some.inj hF
            subst hu
            exact z_throw (E := "java/lang/IllegalStateException") (text := "40 credentials are alive") C X hl (by decide +kernel) kX7_request_52 kX7_request_95052 (by decide +kernel) (fun w h => List.mem_cons_of_mem _ (List.mem_append_left _ (List.mem_append_left _ (List.mem_append_right _ h)))) zbad_ISE X.1.2.2.1.1.1 zgood_ISE dX7_request_42 dX7_request_45 dX7_request_46 dX7_request_48 dX7_request_51 (Nat.le_of_ble_eq_true rfl) (Nat.le_of_ble_eq_true rfl)
set_option maxHeartbeats 4000000 in
set_option maxRecDepth 100000 in
theorem c_X7_whyDenied (l : Launch) (hl : l.stackTraces = false) (D : va_G) (cI cJ cZ : ClassId) (ab : Nat) (a5 : Nat → Nat) (a3 : Nat → Nat) (a6 : Nat → Nat) (a1 : Nat → Nat) (a0 : Nat → Nat) (B : SS) (P : SS) (M : SS) (T : SS) (K : SS) (U : SS) (L : SL) (x1 : Int32) (x2 : Int32) (u : String ⊕ Int32) (hF : f_X7_whyDenied P M T x1 x2 = some u) : zO l yX7_whyDenied wsX7_whyDenied 7 145 D (zTy cI cJ cZ) [.ref ab, .int x1, .int x2] (zwX7 cI cJ cZ ab a5 a3 a6 a1 a0 B P M T K U L) (zo (fun (v : Int32) => ((some (.int v)), (zwX7 cI cJ cZ ab a5 a3 a6 a1 a0 B P M T K U L))) u) := by
  refine z_xbody (cc := cX7_whyDenied) (maxL := 3) (rty := (some .int)) (own := RX7) (lv := [(0, .ref ab), (1, .int x1), (2, .int x2)]) (by decide +kernel) rfl rfl (Nat.le_of_ble_eq_true rfl) rfl (fun p e s m args below meth c A C X => ?_)
  refine z_aload_n C dX7_whyDenied_0 rfl 0 rfl ?_
  refine z_iload_n C dX7_whyDenied_1 rfl 1 rfl ?_
  rcases zth_some hF with ⟨Er1, er1, hE⟩ | ⟨r1, er1, hF⟩
  · subst hE
    exact z_xcallV_T (n := 1) (As := [.int x1]) C X (c_X7_checkToken l hl D cI cJ cZ ab a5 a3 a6 a1 a0 B P M T K U L x1 (.inl Er1) er1) gX7_whyDenied_X7_checkToken rfl (by decide +kernel) ⟨Nat.le_of_ble_eq_true rfl, Nat.le_of_ble_eq_true rfl⟩ ⟨Nat.le_refl 1, Nat.le_refl 6⟩ 0 rfl rfl [] [] rfl rfl rfl (Nat.le_of_ble_eq_true rfl) dX7_whyDenied_2
  · refine z_xcallV_R (n := 1) (As := [.int x1]) (ws' := (zwX7 cI cJ cZ ab a5 a3 a6 a1 a0 B P M T K U L)) C X.1 (c_X7_checkToken l hl D cI cJ cZ ab a5 a3 a6 a1 a0 B P M T K U L x1 (.inr r1) er1) gX7_whyDenied_X7_checkToken rfl (by decide +kernel) ⟨Nat.le_of_ble_eq_true rfl, Nat.le_of_ble_eq_true rfl⟩ ⟨Nat.zero_le _, Nat.zero_le _⟩ 0 rfl rfl [] [] rfl rfl rfl rfl (Nat.le_of_ble_eq_true rfl) dX7_whyDenied_2 ?_
    refine z_iload_n C dX7_whyDenied_5 rfl 2 rfl ?_
    rcases zth_some hF with ⟨Er2, er2, hE⟩ | ⟨r2, er2, hF⟩
    · subst hE
      exact z_xcallS_T (n := 1) (As := [.int x2]) C X (c_X7_checkPath l hl D cI cJ cZ x2 (.inl Er2) er2) gX7_whyDenied_X7_checkPath rfl (by decide +kernel) ⟨Nat.le_of_ble_eq_true rfl, Nat.le_of_ble_eq_true rfl⟩ ⟨Nat.le_refl 1, Nat.le_refl 6⟩ rfl rfl (Nat.le_of_ble_eq_true rfl) dX7_whyDenied_6
    · refine z_xcallS_R (n := 1) (As := [.int x2]) C X.1 (c_X7_checkPath l hl D cI cJ cZ x2 (.inr r2) er2) gX7_whyDenied_X7_checkPath rfl (by decide +kernel) ⟨Nat.le_of_ble_eq_true rfl, Nat.le_of_ble_eq_true rfl⟩ ⟨Nat.zero_le _, Nat.zero_le _⟩ rfl rfl (Nat.le_of_ble_eq_true rfl) dX7_whyDenied_6 ?_
      refine z_aload_n C dX7_whyDenied_9 rfl 0 rfl ?_
      refine z_iload_n C dX7_whyDenied_10 rfl 1 rfl ?_
      refine z_iload_n C dX7_whyDenied_11 rfl 2 rfl ?_
      obtain ⟨r3, er3, hF⟩ := zbd hF
      refine z_callV (n := 2) (As := [.int x1, .int x2]) (ws' := (zwX7 cI cJ cZ ab a5 a3 a6 a1 a0 B P M T K U L)) C (c_X7_reasonAgainst l D cI cJ cZ ab a5 a3 a6 a1 a0 B P M T K U L x1 x2 r3 er3) gX7_whyDenied_X7_reasonAgainst rfl rfl rfl (by decide +kernel) ⟨Nat.le_of_ble_eq_true rfl, Nat.le_of_ble_eq_true rfl⟩ ⟨Nat.zero_le _, Nat.zero_le _⟩ 0 rfl rfl [] [] rfl rfl rfl rfl (Nat.le_of_ble_eq_true rfl) dX7_whyDenied_12 ?_
      have hu := Option.some.inj hF
      subst hu
      exact z_xiret C dX7_whyDenied_15 rfl rfl
theorem kX7_checkCredential_33 : Cond.fieldLink RX7 33 "SecretBroker" "credentialTable" "LSecretBroker$Credentials;" ∈ wsX7_checkCredential := by decide +kernel
theorem kX7_checkCredential_243 : Cond.classLink RX7 243 "java/lang/IndexOutOfBoundsException" ∈ wsX7_checkCredential := by decide +kernel
theorem kX7_checkCredential_95243 : Cond.initialized "java/lang/IndexOutOfBoundsException" ∈ wsX7_checkCredential := by decide +kernel
theorem hX7_checkCredential_X7 : ∀ w ∈ wsX70, w ∈ wsX7_checkCredential := by decide +kernel
set_option maxHeartbeats 4000000 in
set_option maxRecDepth 100000 in
theorem c_X7_checkCredential (l : Launch) (hl : l.stackTraces = false) (D : va_G) (cI cJ cZ : ClassId) (ab : Nat) (a5 : Nat → Nat) (a3 : Nat → Nat) (a6 : Nat → Nat) (a1 : Nat → Nat) (a0 : Nat → Nat) (B : SS) (P : SS) (M : SS) (T : SS) (K : SS) (U : SS) (L : SL) (x1 : Int32) (u : String ⊕ Unit) (hF : f_X7_checkCredential K x1 = some u) : zO l yX7_checkCredential wsX7_checkCredential 6 92 D (zTy cI cJ cZ) [.ref ab, .int x1] (zwX7 cI cJ cZ ab a5 a3 a6 a1 a0 B P M T K U L) (zo (fun (v : Unit) => (none, (zwX7 cI cJ cZ ab a5 a3 a6 a1 a0 B P M T K U L))) u) := by
  refine z_xbody (cc := cX7_checkCredential) (maxL := 2) (rty := none) (own := RX7) (lv := [(0, .ref ab), (1, .int x1)]) (by decide +kernel) rfl rfl (Nat.le_of_ble_eq_true rfl) rfl (fun p e s m args below meth c A C X => ?_)
  refine z_aload_n C dX7_checkCredential_0 rfl 0 rfl ?_
  refine z_get (ref := "SecretBroker") (v := .ref (a1 0)) C hX7_checkCredential_X7 0 rfl rfl 3 (by decide) kX7_checkCredential_33 (fun _ h9 => h9) rfl dX7_checkCredential_1 ?_
  refine z_iload_n C dX7_checkCredential_4 rfl 1 rfl ?_
  obtain ⟨r1, er1, hF⟩ := zbd hF
  refine z_callU (n := 1) (As := [.int x1]) (ws' := (zwX7 cI cJ cZ ab a5 a3 a6 a1 a0 B P M T K U L)) C (c_X2_has_1 l D cI cJ cZ a1 K x1 r1 er1) gX7_checkCredential_X2_has_u251X1 rfl rfl rfl rfl (by decide +kernel) ⟨Nat.le_of_ble_eq_true rfl, Nat.le_of_ble_eq_true rfl⟩ ⟨Nat.zero_le _, Nat.zero_le _⟩ 18 rfl rfl (zwB ab a5 a3 a6 a1 a0 B ++ zwX5 cI cJ cZ a5 P ++ zwX3 cI cJ cZ a3 M ++ zwX6 cI cJ cZ a6 T) (zwX0 cI cJ cZ a0 U L) rfl rfl rfl rfl (Nat.le_of_ble_eq_true rfl) dX7_checkCredential_5 ?_
  refine z_if_ne (tgt := 21) C dX7_checkCredential_8 (by decide) (fun c2 => ?_) (fun c2 => ?_)
  · have hF := zelse hF c2
    have hu := Option.some.inj hF
    subst hu
    exact z_xvret C dX7_checkCredential_21 rfl
  · have hF := zif hF c2
    have hu := Option.some.inj hF
    subst hu
    exact z_throw (E := "java/lang/IndexOutOfBoundsException") (text := "there never was such a credential") C X hl (by decide +kernel) kX7_checkCredential_243 kX7_checkCredential_95243 (by decide +kernel) (fun w h => List.mem_cons_of_mem _ (List.mem_append_right _ h)) zbad_IOE X.1.2.2.1.1.2.2 zgood_IOE dX7_checkCredential_11 dX7_checkCredential_14 dX7_checkCredential_15 dX7_checkCredential_17 dX7_checkCredential_20 (Nat.le_of_ble_eq_true rfl) (Nat.le_of_ble_eq_true rfl)
