theorem kL_policy_13 : Cond.classLink RL 13 "java/lang/IllegalStateException" ∈ wsL_policy := by decide +kernel
set_option maxHeartbeats 4000000 in
set_option maxRecDepth 100000 in
theorem c_L_policy (l : Launch) (hl : l.stackTraces = false) (D : va_G) (cI cJ cZ : ClassId) (ab : Nat) (a5 : Nat → Nat) (a3 : Nat → Nat) (a6 : Nat → Nat) (a1 : Nat → Nat) (a0 : Nat → Nat) (ao : Nat) (B : SS) (P : SS) (M : SS) (T : SS) (K : SS) (U : SS) (L : SL) (O : SL) (u : Int32 × SS × SL) (hF : f_L_policy P O = some u) : zL l yL_policy wsL_policy 7 112 D (zTy cI cJ cZ) [.ref ab, .ref ao] (zwX7 cI cJ cZ ab a5 a3 a6 a1 a0 B P M T K U L ++ zwO cJ ao O) (some (.int u.1)) (zwX7 cI cJ cZ ab a5 a3 a6 a1 a0 B u.2.1 M T K U L ++ zwO cJ ao u.2.2) := by
  refine z_lbody (cc := cL_policy) (maxL := 3) (rty := (some .int)) (hh := [(0, 8, 11, 13)]) (own := RL) (lv := [(0, .ref ab), (1, .ref ao)]) (by decide +kernel) rfl rfl (Nat.le_of_ble_eq_true rfl) rfl (fun p e s m args below meth c A C XE XN XT => ?_)
  refine z_aload_n C dL_policy_0 rfl 1 rfl ?_
  refine z_iconst (v := 0) C dL_policy_1 (by decide) ?_
  refine z_aload_n C dL_policy_2 rfl 0 rfl ?_
  rcases zca_some hF with ⟨Er1, er1, hF⟩ | ⟨r1, er1, hF⟩
  · by_cases c2 : Er1 = "java/lang/IllegalStateException"
    · have hF := zif hF c2
      subst c2
      refine z_lcatchV (n := 0) (As := []) (name := "java/lang/IllegalStateException") (pre9 := []) (x9 := ⟨0, 8, 11, 13⟩) (suf9 := []) C XE (c_X7_policy l hl D cI cJ cZ ab a5 a3 a6 a1 a0 B P M T K U L (.inl "java/lang/IllegalStateException") er1) gL_policy_X7_policy rfl (by decide +kernel) ⟨Nat.le_of_ble_eq_true rfl, Nat.le_of_ble_eq_true rfl⟩ ⟨Nat.le_refl 1, Nat.le_refl 6⟩ 0 rfl rfl [] (zwO cJ ao O) rfl rfl rfl (Nat.le_of_ble_eq_true rfl) dL_policy_3 XT (fun z hz => absurd hz List.not_mem_nil) (by decide) (by decide) kL_policy_13 XE.2.2.1.1.1 (fun q3 => ?_)
      refine z_astore_n (lv' := [(2, .ref q3), (0, .ref ab), (1, .ref ao)]) C dL_policy_11 rfl (by decide) rfl ?_
      refine z_iconst (v := 1) C dL_policy_12 (by decide) ?_
      have hu := Option.some.inj hF
      subst hu
      exact z_lret1 C dL_policy_13 rfl rfl
    · have hF := zelse hF c2
      exact absurd hF (fun q => nomatch q)
  · refine z_xcallV_R (n := 0) (As := []) (ws' := (zwX7 cI cJ cZ ab a5 a3 a6 a1 a0 B r1.2 M T K U L ++ zwO cJ ao O)) C XE (c_X7_policy l hl D cI cJ cZ ab a5 a3 a6 a1 a0 B P M T K U L (.inr r1) er1) gL_policy_X7_policy rfl (by decide +kernel) ⟨Nat.le_of_ble_eq_true rfl, Nat.le_of_ble_eq_true rfl⟩ ⟨Nat.zero_le _, Nat.zero_le _⟩ 0 rfl rfl [] (zwO cJ ao O) rfl rfl rfl rfl (Nat.le_of_ble_eq_true rfl) dL_policy_3 ?_
    refine z_i2l C dL_policy_6 ?_
    obtain ⟨g4, hF⟩ := zix_some hF
    refine z_last (ws' := (zwX7 cI cJ cZ ab a5 a3 a6 a1 a0 B r1.2 M T K U L ++ zwO cJ ao (vp_updL O (0 : Int32).toNatClampNeg ((r1.1).toInt64)))) C g4 30 rfl rfl dL_policy_7 (zr_O cI cJ cZ ab a5 a3 a6 a1 a0 B r1.2 M T K U L ao O ((0 : Int32).toNatClampNeg) ((r1.1).toInt64)) ?_
    refine z_goto (tgt := 14) C dL_policy_8 (by decide) ?_
    refine z_iconst (v := 0) C dL_policy_14 (by decide) ?_
    have hu := Option.some.inj hF
    subst hu
    refine z_widen (k := 1) (n := 6) (Nat.zero_le _) (Nat.zero_le _) ?_
    exact z_lret1 C dL_policy_15 rfl rfl
theorem kL_allow_19 : Cond.classLink RL 19 "java/lang/IndexOutOfBoundsException" ∈ wsL_allow := by decide +kernel
theorem kL_allow_21 : Cond.classLink RL 21 "java/lang/IllegalArgumentException" ∈ wsL_allow := by decide +kernel
theorem kL_allow_13 : Cond.classLink RL 13 "java/lang/IllegalStateException" ∈ wsL_allow := by decide +kernel
set_option maxHeartbeats 4000000 in
set_option maxRecDepth 100000 in
theorem c_L_allow (l : Launch) (hl : l.stackTraces = false) (D : va_G) (cI cJ cZ : ClassId) (ab : Nat) (a5 : Nat → Nat) (a3 : Nat → Nat) (a6 : Nat → Nat) (a1 : Nat → Nat) (a0 : Nat → Nat) (ao : Nat) (B : SS) (P : SS) (M : SS) (T : SS) (K : SS) (U : SS) (L : SL) (O : SL) (x2 : Int32) (x3 : Int32) (x4 : Int32) (x5 : Int32) (u : Int32 × SS × SL) (hF : f_L_allow P O x2 x3 x4 x5 = some u) : zL l yL_allow wsL_allow 8 139 D (zTy cI cJ cZ) [.ref ab, .int x2, .int x3, .int x4, .int x5, .ref ao] (zwX7 cI cJ cZ ab a5 a3 a6 a1 a0 B P M T K U L ++ zwO cJ ao O) (some (.int u.1)) (zwX7 cI cJ cZ ab a5 a3 a6 a1 a0 B u.2.1 M T K U L ++ zwO cJ ao u.2.2) := by
  refine z_lbody (cc := cL_allow) (maxL := 7) (rty := (some .int)) (hh := [(0, 14, 17, 19), (0, 14, 21, 21), (0, 14, 25, 13)]) (own := RL) (lv := [(0, .ref ab), (1, .int x2), (2, .int x3), (3, .int x4), (4, .int x5), (5, .ref ao)]) (by decide +kernel) rfl rfl (Nat.le_of_ble_eq_true rfl) rfl (fun p e s m args below meth c A C XE XN XT => ?_)
  refine z_aload C dL_allow_0 5 rfl ?_
  refine z_iconst (v := 0) C dL_allow_2 (by decide) ?_
  refine z_aload_n C dL_allow_3 rfl 0 rfl ?_
  refine z_iload_n C dL_allow_4 rfl 1 rfl ?_
  refine z_iload_n C dL_allow_5 rfl 2 rfl ?_
  refine z_iload_n C dL_allow_6 rfl 3 rfl ?_
  refine z_iload C dL_allow_7 4 rfl ?_
  rcases zca_some hF with ⟨Er1, er1, hF⟩ | ⟨r1, er1, hF⟩
  · by_cases c2 : Er1 = "java/lang/IndexOutOfBoundsException"
    · have hF := zif hF c2
      subst c2
      refine z_lcatchV (n := 4) (As := [.int x2, .int x3, .int x4, .int x5]) (name := "java/lang/IndexOutOfBoundsException") (pre9 := []) (x9 := ⟨0, 14, 17, 19⟩) (suf9 := [⟨0, 14, 21, 21⟩, ⟨0, 14, 25, 13⟩]) C XE (c_X7_allow l hl D cI cJ cZ ab a5 a3 a6 a1 a0 B P M T K U L x2 x3 x4 x5 (.inl "java/lang/IndexOutOfBoundsException") er1) gL_allow_X7_allow rfl (by decide +kernel) ⟨Nat.le_of_ble_eq_true rfl, Nat.le_of_ble_eq_true rfl⟩ ⟨Nat.le_refl 1, Nat.le_refl 6⟩ 0 rfl rfl [] (zwO cJ ao O) rfl rfl rfl (Nat.le_of_ble_eq_true rfl) dL_allow_9 XT (fun z hz => absurd hz List.not_mem_nil) (by decide) (by decide) kL_allow_19 XE.2.2.1.1.2.2 (fun q3 => ?_)
      refine z_astore (lv' := [(6, .ref q3), (0, .ref ab), (1, .int x2), (2, .int x3), (3, .int x4), (4, .int x5), (5, .ref ao)]) C dL_allow_17 (by decide) rfl ?_
      refine z_iconst (v := 1) C dL_allow_19 (by decide) ?_
      have hu := Option.some.inj hF
      subst hu
      exact z_lret1 C dL_allow_20 rfl rfl
    · have hF := zelse hF c2
      by_cases c4 : Er1 = "java/lang/IllegalArgumentException"
      · have hF := zif hF c4
        subst c4
        refine z_lcatchV (n := 4) (As := [.int x2, .int x3, .int x4, .int x5]) (name := "java/lang/IllegalArgumentException") (pre9 := [⟨0, 14, 17, 19⟩]) (x9 := ⟨0, 14, 21, 21⟩) (suf9 := [⟨0, 14, 25, 13⟩]) C XE (c_X7_allow l hl D cI cJ cZ ab a5 a3 a6 a1 a0 B P M T K U L x2 x3 x4 x5 (.inl "java/lang/IllegalArgumentException") er1) gL_allow_X7_allow rfl (by decide +kernel) ⟨Nat.le_of_ble_eq_true rfl, Nat.le_of_ble_eq_true rfl⟩ ⟨Nat.le_refl 1, Nat.le_refl 6⟩ 0 rfl rfl [] (zwO cJ ao O) rfl rfl rfl (Nat.le_of_ble_eq_true rfl) dL_allow_9 XT (List.forall_mem_cons.mpr ⟨Or.inr ⟨by decide, "java/lang/IndexOutOfBoundsException", C.2.2.2.2.1 _ kL_allow_19, XN.1⟩, (fun _ h => absurd h List.not_mem_nil)⟩) (by decide) (by decide) kL_allow_21 XE.2.2.1.1.2.1 (fun q5 => ?_)
        refine z_astore (lv' := [(6, .ref q5), (0, .ref ab), (1, .int x2), (2, .int x3), (3, .int x4), (4, .int x5), (5, .ref ao)]) C dL_allow_21 (by decide) rfl ?_
        refine z_iconst (v := 2) C dL_allow_23 (by decide) ?_
        have hu := Option.some.inj hF
        subst hu
        exact z_lret1 C dL_allow_24 rfl rfl
      · have hF := zelse hF c4
        by_cases c6 : Er1 = "java/lang/IllegalStateException"
        · have hF := zif hF c6
          subst c6
          refine z_lcatchV (n := 4) (As := [.int x2, .int x3, .int x4, .int x5]) (name := "java/lang/IllegalStateException") (pre9 := [⟨0, 14, 17, 19⟩, ⟨0, 14, 21, 21⟩]) (x9 := ⟨0, 14, 25, 13⟩) (suf9 := []) C XE (c_X7_allow l hl D cI cJ cZ ab a5 a3 a6 a1 a0 B P M T K U L x2 x3 x4 x5 (.inl "java/lang/IllegalStateException") er1) gL_allow_X7_allow rfl (by decide +kernel) ⟨Nat.le_of_ble_eq_true rfl, Nat.le_of_ble_eq_true rfl⟩ ⟨Nat.le_refl 1, Nat.le_refl 6⟩ 0 rfl rfl [] (zwO cJ ao O) rfl rfl rfl (Nat.le_of_ble_eq_true rfl) dL_allow_9 XT (List.forall_mem_cons.mpr ⟨Or.inr ⟨by decide, "java/lang/IndexOutOfBoundsException", C.2.2.2.2.1 _ kL_allow_19, XN.2.1⟩, (List.forall_mem_cons.mpr ⟨Or.inr ⟨by decide, "java/lang/IllegalArgumentException", C.2.2.2.2.1 _ kL_allow_21, XN.2.2⟩, (fun _ h => absurd h List.not_mem_nil)⟩)⟩) (by decide) (by decide) kL_allow_13 XE.2.2.1.1.1 (fun q7 => ?_)
          refine z_astore (lv' := [(6, .ref q7), (0, .ref ab), (1, .int x2), (2, .int x3), (3, .int x4), (4, .int x5), (5, .ref ao)]) C dL_allow_25 (by decide) rfl ?_
          refine z_iconst (v := 3) C dL_allow_27 (by decide) ?_
          have hu := Option.some.inj hF
          subst hu
          exact z_lret1 C dL_allow_28 rfl rfl
        · have hF := zelse hF c6
          exact absurd hF (fun q => nomatch q)
  · refine z_xcallV_R (n := 4) (As := [.int x2, .int x3, .int x4, .int x5]) (ws' := (zwX7 cI cJ cZ ab a5 a3 a6 a1 a0 B r1.2 M T K U L ++ zwO cJ ao O)) C XE (c_X7_allow l hl D cI cJ cZ ab a5 a3 a6 a1 a0 B P M T K U L x2 x3 x4 x5 (.inr r1) er1) gL_allow_X7_allow rfl (by decide +kernel) ⟨Nat.le_of_ble_eq_true rfl, Nat.le_of_ble_eq_true rfl⟩ ⟨Nat.zero_le _, Nat.zero_le _⟩ 0 rfl rfl [] (zwO cJ ao O) rfl rfl rfl rfl (Nat.le_of_ble_eq_true rfl) dL_allow_9 ?_
    refine z_i2l C dL_allow_12 ?_
    obtain ⟨g8, hF⟩ := zix_some hF
    refine z_last (ws' := (zwX7 cI cJ cZ ab a5 a3 a6 a1 a0 B r1.2 M T K U L ++ zwO cJ ao (vp_updL O (0 : Int32).toNatClampNeg ((r1.1).toInt64)))) C g8 30 rfl rfl dL_allow_13 (zr_O cI cJ cZ ab a5 a3 a6 a1 a0 B r1.2 M T K U L ao O ((0 : Int32).toNatClampNeg) ((r1.1).toInt64)) ?_
    refine z_goto (tgt := 29) C dL_allow_14 (by decide) ?_
    refine z_iconst (v := 0) C dL_allow_29 (by decide) ?_
    have hu := Option.some.inj hF
    subst hu
    refine z_widen (k := 1) (n := 6) (Nat.zero_le _) (Nat.zero_le _) ?_
    exact z_lret1 C dL_allow_30 rfl rfl
theorem kL_clear_19 : Cond.classLink RL 19 "java/lang/IndexOutOfBoundsException" ∈ wsL_clear := by decide +kernel
set_option maxHeartbeats 4000000 in
set_option maxRecDepth 100000 in
theorem c_L_clear (l : Launch) (hl : l.stackTraces = false) (D : va_G) (cI cJ cZ : ClassId) (ab : Nat) (a5 : Nat → Nat) (a3 : Nat → Nat) (a6 : Nat → Nat) (a1 : Nat → Nat) (a0 : Nat → Nat) (ao : Nat) (B : SS) (P : SS) (M : SS) (T : SS) (K : SS) (U : SS) (L : SL) (O : SL) (x2 : Int32) (u : Int32 × SS × SL) (hF : f_L_clear P O x2 = some u) : zL l yL_clear wsL_clear 8 135 D (zTy cI cJ cZ) [.ref ab, .int x2, .ref ao] (zwX7 cI cJ cZ ab a5 a3 a6 a1 a0 B P M T K U L ++ zwO cJ ao O) (some (.int u.1)) (zwX7 cI cJ cZ ab a5 a3 a6 a1 a0 B u.2.1 M T K U L ++ zwO cJ ao u.2.2) := by
  refine z_lbody (cc := cL_clear) (maxL := 4) (rty := (some .int)) (hh := [(0, 9, 12, 19)]) (own := RL) (lv := [(0, .ref ab), (1, .int x2), (2, .ref ao)]) (by decide +kernel) rfl rfl (Nat.le_of_ble_eq_true rfl) rfl (fun p e s m args below meth c A C XE XN XT => ?_)
  refine z_aload_n C dL_clear_0 rfl 2 rfl ?_
  refine z_iconst (v := 0) C dL_clear_1 (by decide) ?_
  refine z_aload_n C dL_clear_2 rfl 0 rfl ?_
  refine z_iload_n C dL_clear_3 rfl 1 rfl ?_
  rcases zca_some hF with ⟨Er1, er1, hF⟩ | ⟨r1, er1, hF⟩
  · by_cases c2 : Er1 = "java/lang/IndexOutOfBoundsException"
    · have hF := zif hF c2
      subst c2
      refine z_lcatchV (n := 1) (As := [.int x2]) (name := "java/lang/IndexOutOfBoundsException") (pre9 := []) (x9 := ⟨0, 9, 12, 19⟩) (suf9 := []) C XE (c_X7_clear l hl D cI cJ cZ ab a5 a3 a6 a1 a0 B P M T K U L x2 (.inl "java/lang/IndexOutOfBoundsException") er1) gL_clear_X7_clear rfl (by decide +kernel) ⟨Nat.le_of_ble_eq_true rfl, Nat.le_of_ble_eq_true rfl⟩ ⟨Nat.le_refl 1, Nat.le_refl 6⟩ 0 rfl rfl [] (zwO cJ ao O) rfl rfl rfl (Nat.le_of_ble_eq_true rfl) dL_clear_4 XT (fun z hz => absurd hz List.not_mem_nil) (by decide) (by decide) kL_clear_19 XE.2.2.1.1.2.2 (fun q3 => ?_)
      refine z_astore_n (lv' := [(3, .ref q3), (0, .ref ab), (1, .int x2), (2, .ref ao)]) C dL_clear_12 rfl (by decide) rfl ?_
      refine z_iconst (v := 1) C dL_clear_13 (by decide) ?_
      have hu := Option.some.inj hF
      subst hu
      exact z_lret1 C dL_clear_14 rfl rfl
    · have hF := zelse hF c2
      exact absurd hF (fun q => nomatch q)
  · refine z_xcallV_R (n := 1) (As := [.int x2]) (ws' := (zwX7 cI cJ cZ ab a5 a3 a6 a1 a0 B r1.2 M T K U L ++ zwO cJ ao O)) C XE (c_X7_clear l hl D cI cJ cZ ab a5 a3 a6 a1 a0 B P M T K U L x2 (.inr r1) er1) gL_clear_X7_clear rfl (by decide +kernel) ⟨Nat.le_of_ble_eq_true rfl, Nat.le_of_ble_eq_true rfl⟩ ⟨Nat.zero_le _, Nat.zero_le _⟩ 0 rfl rfl [] (zwO cJ ao O) rfl rfl rfl rfl (Nat.le_of_ble_eq_true rfl) dL_clear_4 ?_
    refine z_i2l C dL_clear_7 ?_
    obtain ⟨g4, hF⟩ := zix_some hF
    refine z_last (ws' := (zwX7 cI cJ cZ ab a5 a3 a6 a1 a0 B r1.2 M T K U L ++ zwO cJ ao (vp_updL O (0 : Int32).toNatClampNeg ((r1.1).toInt64)))) C g4 30 rfl rfl dL_clear_8 (zr_O cI cJ cZ ab a5 a3 a6 a1 a0 B r1.2 M T K U L ao O ((0 : Int32).toNatClampNeg) ((r1.1).toInt64)) ?_
    refine z_goto (tgt := 15) C dL_clear_9 (by decide) ?_
    refine z_iconst (v := 0) C dL_clear_15 (by decide) ?_
    have hu := Option.some.inj hF
    subst hu
    refine z_widen (k := 1) (n := 6) (Nat.zero_le _) (Nat.zero_le _) ?_
    exact z_lret1 C dL_clear_16 rfl rfl
theorem kL_mount_21 : Cond.classLink RL 21 "java/lang/IllegalArgumentException" ∈ wsL_mount := by decide +kernel
theorem kL_mount_13 : Cond.classLink RL 13 "java/lang/IllegalStateException" ∈ wsL_mount := by decide +kernel
set_option maxHeartbeats 4000000 in
set_option maxRecDepth 100000 in
theorem c_L_mount (l : Launch) (hl : l.stackTraces = false) (D : va_G) (cI cJ cZ : ClassId) (ab : Nat) (a5 : Nat → Nat) (a3 : Nat → Nat) (a6 : Nat → Nat) (a1 : Nat → Nat) (a0 : Nat → Nat) (ao : Nat) (B : SS) (P : SS) (M : SS) (T : SS) (K : SS) (U : SS) (L : SL) (O : SL) (x2 : Int32) (x3 : Int32) (x4 : Int32) (u : Int32 × SS × SL) (hF : f_L_mount M O x2 x3 x4 = some u) : zL l yL_mount wsL_mount 9 158 D (zTy cI cJ cZ) [.ref ab, .int x2, .int x3, .int x4, .ref ao] (zwX7 cI cJ cZ ab a5 a3 a6 a1 a0 B P M T K U L ++ zwO cJ ao O) (some (.int u.1)) (zwX7 cI cJ cZ ab a5 a3 a6 a1 a0 B P u.2.1 T K U L ++ zwO cJ ao u.2.2) := by
  refine z_lbody (cc := cL_mount) (maxL := 6) (rty := (some .int)) (hh := [(0, 12, 15, 21), (0, 12, 19, 13)]) (own := RL) (lv := [(0, .ref ab), (1, .int x2), (2, .int x3), (3, .int x4), (4, .ref ao)]) (by decide +kernel) rfl rfl (Nat.le_of_ble_eq_true rfl) rfl (fun p e s m args below meth c A C XE XN XT => ?_)
  refine z_aload C dL_mount_0 4 rfl ?_
  refine z_iconst (v := 0) C dL_mount_2 (by decide) ?_
  refine z_aload_n C dL_mount_3 rfl 0 rfl ?_
  refine z_iload_n C dL_mount_4 rfl 1 rfl ?_
  refine z_iload_n C dL_mount_5 rfl 2 rfl ?_
  refine z_iload_n C dL_mount_6 rfl 3 rfl ?_
  rcases zca_some hF with ⟨Er1, er1, hF⟩ | ⟨r1, er1, hF⟩
  · by_cases c2 : Er1 = "java/lang/IllegalArgumentException"
    · have hF := zif hF c2
      subst c2
      refine z_lcatchV (n := 3) (As := [.int x2, .int x3, .int x4]) (name := "java/lang/IllegalArgumentException") (pre9 := []) (x9 := ⟨0, 12, 15, 21⟩) (suf9 := [⟨0, 12, 19, 13⟩]) C XE (c_X7_mount l hl D cI cJ cZ ab a5 a3 a6 a1 a0 B P M T K U L x2 x3 x4 (.inl "java/lang/IllegalArgumentException") er1) gL_mount_X7_mount rfl (by decide +kernel) ⟨Nat.le_of_ble_eq_true rfl, Nat.le_of_ble_eq_true rfl⟩ ⟨Nat.le_refl 1, Nat.le_refl 6⟩ 0 rfl rfl [] (zwO cJ ao O) rfl rfl rfl (Nat.le_of_ble_eq_true rfl) dL_mount_7 XT (fun z hz => absurd hz List.not_mem_nil) (by decide) (by decide) kL_mount_21 XE.2.2.1.1.2.1 (fun q3 => ?_)
      refine z_astore (lv' := [(5, .ref q3), (0, .ref ab), (1, .int x2), (2, .int x3), (3, .int x4), (4, .ref ao)]) C dL_mount_15 (by decide) rfl ?_
      refine z_iconst (v := 1) C dL_mount_17 (by decide) ?_
      have hu := Option.some.inj hF
      subst hu
      exact z_lret1 C dL_mount_18 rfl rfl
    · have hF := zelse hF c2
      by_cases c4 : Er1 = "java/lang/IllegalStateException"
      · have hF := zif hF c4
        subst c4
        refine z_lcatchV (n := 3) (As := [.int x2, .int x3, .int x4]) (name := "java/lang/IllegalStateException") (pre9 := [⟨0, 12, 15, 21⟩]) (x9 := ⟨0, 12, 19, 13⟩) (suf9 := []) C XE (c_X7_mount l hl D cI cJ cZ ab a5 a3 a6 a1 a0 B P M T K U L x2 x3 x4 (.inl "java/lang/IllegalStateException") er1) gL_mount_X7_mount rfl (by decide +kernel) ⟨Nat.le_of_ble_eq_true rfl, Nat.le_of_ble_eq_true rfl⟩ ⟨Nat.le_refl 1, Nat.le_refl 6⟩ 0 rfl rfl [] (zwO cJ ao O) rfl rfl rfl (Nat.le_of_ble_eq_true rfl) dL_mount_7 XT (List.forall_mem_cons.mpr ⟨Or.inr ⟨by decide, "java/lang/IllegalArgumentException", C.2.2.2.2.1 _ kL_mount_21, XN.2.2⟩, (fun _ h => absurd h List.not_mem_nil)⟩) (by decide) (by decide) kL_mount_13 XE.2.2.1.1.1 (fun q5 => ?_)
        refine z_astore (lv' := [(5, .ref q5), (0, .ref ab), (1, .int x2), (2, .int x3), (3, .int x4), (4, .ref ao)]) C dL_mount_19 (by decide) rfl ?_
        refine z_iconst (v := 2) C dL_mount_21 (by decide) ?_
        have hu := Option.some.inj hF
        subst hu
        exact z_lret1 C dL_mount_22 rfl rfl
      · have hF := zelse hF c4
        exact absurd hF (fun q => nomatch q)
  · refine z_xcallV_R (n := 3) (As := [.int x2, .int x3, .int x4]) (ws' := (zwX7 cI cJ cZ ab a5 a3 a6 a1 a0 B P r1.2 T K U L ++ zwO cJ ao O)) C XE (c_X7_mount l hl D cI cJ cZ ab a5 a3 a6 a1 a0 B P M T K U L x2 x3 x4 (.inr r1) er1) gL_mount_X7_mount rfl (by decide +kernel) ⟨Nat.le_of_ble_eq_true rfl, Nat.le_of_ble_eq_true rfl⟩ ⟨Nat.zero_le _, Nat.zero_le _⟩ 0 rfl rfl [] (zwO cJ ao O) rfl rfl rfl rfl (Nat.le_of_ble_eq_true rfl) dL_mount_7 ?_
    refine z_i2l C dL_mount_10 ?_
    obtain ⟨g6, hF⟩ := zix_some hF
    refine z_last (ws' := (zwX7 cI cJ cZ ab a5 a3 a6 a1 a0 B P r1.2 T K U L ++ zwO cJ ao (vp_updL O (0 : Int32).toNatClampNeg ((r1.1).toInt64)))) C g6 30 rfl rfl dL_mount_11 (zr_O cI cJ cZ ab a5 a3 a6 a1 a0 B P r1.2 T K U L ao O ((0 : Int32).toNatClampNeg) ((r1.1).toInt64)) ?_
    refine z_goto (tgt := 23) C dL_mount_12 (by decide) ?_
    refine z_iconst (v := 0) C dL_mount_23 (by decide) ?_
    have hu := Option.some.inj hF
    subst hu
    refine z_widen (k := 1) (n := 6) (Nat.zero_le _) (Nat.zero_le _) ?_
    exact z_lret1 C dL_mount_24 rfl rfl
theorem kL_create_19 : Cond.classLink RL 19 "java/lang/IndexOutOfBoundsException" ∈ wsL_create := by decide +kernel
theorem kL_create_21 : Cond.classLink RL 21 "java/lang/IllegalArgumentException" ∈ wsL_create := by decide +kernel
theorem kL_create_13 : Cond.classLink RL 13 "java/lang/IllegalStateException" ∈ wsL_create := by decide +kernel
set_option maxHeartbeats 4000000 in
set_option maxRecDepth 100000 in
theorem c_L_create (l : Launch) (hl : l.stackTraces = false) (D : va_G) (cI cJ cZ : ClassId) (ab : Nat) (a5 : Nat → Nat) (a3 : Nat → Nat) (a6 : Nat → Nat) (a1 : Nat → Nat) (a0 : Nat → Nat) (ao : Nat) (B : SS) (P : SS) (M : SS) (T : SS) (K : SS) (U : SS) (L : SL) (O : SL) (x2 : Int32) (x3 : Int32) (x4 : Int32) (x5 : Int32) (x6 : Int32) (u : Int32 × SS × SS × SL × SL) (hF : f_L_create B P T U L O x2 x3 x4 x5 x6 = some u) : zL l yL_create wsL_create 9 161 D (zTy cI cJ cZ) [.ref ab, .int x2, .int x3, .int x4, .int x5, .int x6, .ref ao] (zwX7 cI cJ cZ ab a5 a3 a6 a1 a0 B P M T K U L ++ zwO cJ ao O) (some (.int u.1)) (zwX7 cI cJ cZ ab a5 a3 a6 a1 a0 B P M u.2.1 K u.2.2.1 u.2.2.2.1 ++ zwO cJ ao u.2.2.2.2) := by
  refine z_lbody (cc := cL_create) (maxL := 8) (rty := (some .int)) (hh := [(0, 16, 19, 19), (0, 16, 23, 21), (0, 16, 27, 13)]) (own := RL) (lv := [(0, .ref ab), (1, .int x2), (2, .int x3), (3, .int x4), (4, .int x5), (5, .int x6), (6, .ref ao)]) (by decide +kernel) rfl rfl (Nat.le_of_ble_eq_true rfl) rfl (fun p e s m args below meth c A C XE XN XT => ?_)
  refine z_aload C dL_create_0 6 rfl ?_
  refine z_iconst (v := 0) C dL_create_2 (by decide) ?_
  refine z_aload_n C dL_create_3 rfl 0 rfl ?_
  refine z_iload_n C dL_create_4 rfl 1 rfl ?_
  refine z_iload_n C dL_create_5 rfl 2 rfl ?_
  refine z_iload_n C dL_create_6 rfl 3 rfl ?_
  refine z_iload C dL_create_7 4 rfl ?_
  refine z_iload C dL_create_9 5 rfl ?_
  rcases zca_some hF with ⟨Er1, er1, hF⟩ | ⟨r1, er1, hF⟩
  · by_cases c2 : Er1 = "java/lang/IndexOutOfBoundsException"
    · have hF := zif hF c2
      subst c2
      refine z_lcatchV (n := 5) (As := [.int x2, .int x3, .int x4, .int x5, .int x6]) (name := "java/lang/IndexOutOfBoundsException") (pre9 := []) (x9 := ⟨0, 16, 19, 19⟩) (suf9 := [⟨0, 16, 23, 21⟩, ⟨0, 16, 27, 13⟩]) C XE (c_X7_create l hl D cI cJ cZ ab a5 a3 a6 a1 a0 B P M T K U L x2 x3 x4 x5 x6 (.inl "java/lang/IndexOutOfBoundsException") er1) gL_create_X7_create rfl (by decide +kernel) ⟨Nat.le_of_ble_eq_true rfl, Nat.le_of_ble_eq_true rfl⟩ ⟨Nat.le_refl 1, Nat.le_refl 6⟩ 0 rfl rfl [] (zwO cJ ao O) rfl rfl rfl (Nat.le_of_ble_eq_true rfl) dL_create_11 XT (fun z hz => absurd hz List.not_mem_nil) (by decide) (by decide) kL_create_19 XE.2.2.1.1.2.2 (fun q3 => ?_)
      refine z_astore (lv' := [(7, .ref q3), (0, .ref ab), (1, .int x2), (2, .int x3), (3, .int x4), (4, .int x5), (5, .int x6), (6, .ref ao)]) C dL_create_19 (by decide) rfl ?_
      refine z_iconst (v := 1) C dL_create_21 (by decide) ?_
      have hu := Option.some.inj hF
      subst hu
      exact z_lret1 C dL_create_22 rfl rfl
    · have hF := zelse hF c2
      by_cases c4 : Er1 = "java/lang/IllegalArgumentException"
      · have hF := zif hF c4
        subst c4
        refine z_lcatchV (n := 5) (As := [.int x2, .int x3, .int x4, .int x5, .int x6]) (name := "java/lang/IllegalArgumentException") (pre9 := [⟨0, 16, 19, 19⟩]) (x9 := ⟨0, 16, 23, 21⟩) (suf9 := [⟨0, 16, 27, 13⟩]) C XE (c_X7_create l hl D cI cJ cZ ab a5 a3 a6 a1 a0 B P M T K U L x2 x3 x4 x5 x6 (.inl "java/lang/IllegalArgumentException") er1) gL_create_X7_create rfl (by decide +kernel) ⟨Nat.le_of_ble_eq_true rfl, Nat.le_of_ble_eq_true rfl⟩ ⟨Nat.le_refl 1, Nat.le_refl 6⟩ 0 rfl rfl [] (zwO cJ ao O) rfl rfl rfl (Nat.le_of_ble_eq_true rfl) dL_create_11 XT (List.forall_mem_cons.mpr ⟨Or.inr ⟨by decide, "java/lang/IndexOutOfBoundsException", C.2.2.2.2.1 _ kL_create_19, XN.1⟩, (fun _ h => absurd h List.not_mem_nil)⟩) (by decide) (by decide) kL_create_21 XE.2.2.1.1.2.1 (fun q5 => ?_)
        refine z_astore (lv' := [(7, .ref q5), (0, .ref ab), (1, .int x2), (2, .int x3), (3, .int x4), (4, .int x5), (5, .int x6), (6, .ref ao)]) C dL_create_23 (by decide) rfl ?_
        refine z_iconst (v := 2) C dL_create_25 (by decide) ?_
        have hu := Option.some.inj hF
        subst hu
        exact z_lret1 C dL_create_26 rfl rfl
      · have hF := zelse hF c4
        by_cases c6 : Er1 = "java/lang/IllegalStateException"
        · have hF := zif hF c6
          subst c6
          refine z_lcatchV (n := 5) (As := [.int x2, .int x3, .int x4, .int x5, .int x6]) (name := "java/lang/IllegalStateException") (pre9 := [⟨0, 16, 19, 19⟩, ⟨0, 16, 23, 21⟩]) (x9 := ⟨0, 16, 27, 13⟩) (suf9 := []) C XE (c_X7_create l hl D cI cJ cZ ab a5 a3 a6 a1 a0 B P M T K U L x2 x3 x4 x5 x6 (.inl "java/lang/IllegalStateException") er1) gL_create_X7_create rfl (by decide +kernel) ⟨Nat.le_of_ble_eq_true rfl, Nat.le_of_ble_eq_true rfl⟩ ⟨Nat.le_refl 1, Nat.le_refl 6⟩ 0 rfl rfl [] (zwO cJ ao O) rfl rfl rfl (Nat.le_of_ble_eq_true rfl) dL_create_11 XT (List.forall_mem_cons.mpr ⟨Or.inr ⟨by decide, "java/lang/IndexOutOfBoundsException", C.2.2.2.2.1 _ kL_create_19, XN.2.1⟩, (List.forall_mem_cons.mpr ⟨Or.inr ⟨by decide, "java/lang/IllegalArgumentException", C.2.2.2.2.1 _ kL_create_21, XN.2.2⟩, (fun _ h => absurd h List.not_mem_nil)⟩)⟩) (by decide) (by decide) kL_create_13 XE.2.2.1.1.1 (fun q7 => ?_)
          refine z_astore (lv' := [(7, .ref q7), (0, .ref ab), (1, .int x2), (2, .int x3), (3, .int x4), (4, .int x5), (5, .int x6), (6, .ref ao)]) C dL_create_27 (by decide) rfl ?_
          refine z_iconst (v := 3) C dL_create_29 (by decide) ?_
          have hu := Option.some.inj hF
          subst hu
          exact z_lret1 C dL_create_30 rfl rfl
        · have hF := zelse hF c6
          exact absurd hF (fun q => nomatch q)
  · refine z_xcallV_R (n := 5) (As := [.int x2, .int x3, .int x4, .int x5, .int x6]) (ws' := (zwX7 cI cJ cZ ab a5 a3 a6 a1 a0 B P M r1.2.1 K r1.2.2.1 r1.2.2.2 ++ zwO cJ ao O)) C XE (c_X7_create l hl D cI cJ cZ ab a5 a3 a6 a1 a0 B P M T K U L x2 x3 x4 x5 x6 (.inr r1) er1) gL_create_X7_create rfl (by decide +kernel) ⟨Nat.le_of_ble_eq_true rfl, Nat.le_of_ble_eq_true rfl⟩ ⟨Nat.zero_le _, Nat.zero_le _⟩ 0 rfl rfl [] (zwO cJ ao O) rfl rfl rfl rfl (Nat.le_of_ble_eq_true rfl) dL_create_11 ?_
    refine z_i2l C dL_create_14 ?_
    obtain ⟨g8, hF⟩ := zix_some hF
    refine z_last (ws' := (zwX7 cI cJ cZ ab a5 a3 a6 a1 a0 B P M r1.2.1 K r1.2.2.1 r1.2.2.2 ++ zwO cJ ao (vp_updL O (0 : Int32).toNatClampNeg ((r1.1).toInt64)))) C g8 30 rfl rfl dL_create_15 (zr_O cI cJ cZ ab a5 a3 a6 a1 a0 B P M r1.2.1 K r1.2.2.1 r1.2.2.2 ao O ((0 : Int32).toNatClampNeg) ((r1.1).toInt64)) ?_
    refine z_goto (tgt := 31) C dL_create_16 (by decide) ?_
    refine z_iconst (v := 0) C dL_create_31 (by decide) ?_
    have hu := Option.some.inj hF
    subst hu
    refine z_widen (k := 1) (n := 6) (Nat.zero_le _) (Nat.zero_le _) ?_
    exact z_lret1 C dL_create_32 rfl rfl
theorem kL_renew_19 : Cond.classLink RL 19 "java/lang/IndexOutOfBoundsException" ∈ wsL_renew := by decide +kernel
theorem kL_renew_21 : Cond.classLink RL 21 "java/lang/IllegalArgumentException" ∈ wsL_renew := by decide +kernel
theorem kL_renew_13 : Cond.classLink RL 13 "java/lang/IllegalStateException" ∈ wsL_renew := by decide +kernel
set_option maxHeartbeats 4000000 in
set_option maxRecDepth 100000 in
theorem c_L_renew (l : Launch) (hl : l.stackTraces = false) (D : va_G) (cI cJ cZ : ClassId) (ab : Nat) (a5 : Nat → Nat) (a3 : Nat → Nat) (a6 : Nat → Nat) (a1 : Nat → Nat) (a0 : Nat → Nat) (ao : Nat) (B : SS) (P : SS) (M : SS) (T : SS) (K : SS) (U : SS) (L : SL) (O : SL) (x2 : Int32) (x3 : Int32) (u : Int32 × SS × SS × SL × SL) (hF : f_L_renew B T U L O x2 x3 = some u) : zL l yL_renew wsL_renew 9 157 D (zTy cI cJ cZ) [.ref ab, .int x2, .int x3, .ref ao] (zwX7 cI cJ cZ ab a5 a3 a6 a1 a0 B P M T K U L ++ zwO cJ ao O) (some (.int u.1)) (zwX7 cI cJ cZ ab a5 a3 a6 a1 a0 B P M u.2.1 K u.2.2.1 u.2.2.2.1 ++ zwO cJ ao u.2.2.2.2) := by
  refine z_lbody (cc := cL_renew) (maxL := 5) (rty := (some .int)) (hh := [(0, 10, 13, 19), (0, 10, 17, 21), (0, 10, 21, 13)]) (own := RL) (lv := [(0, .ref ab), (1, .int x2), (2, .int x3), (3, .ref ao)]) (by decide +kernel) rfl rfl (Nat.le_of_ble_eq_true rfl) rfl (fun p e s m args below meth c A C XE XN XT => ?_)
  refine z_aload_n C dL_renew_0 rfl 3 rfl ?_
  refine z_iconst (v := 0) C dL_renew_1 (by decide) ?_
  refine z_aload_n C dL_renew_2 rfl 0 rfl ?_
  refine z_iload_n C dL_renew_3 rfl 1 rfl ?_
  refine z_iload_n C dL_renew_4 rfl 2 rfl ?_
  rcases zca_some hF with ⟨Er1, er1, hF⟩ | ⟨r1, er1, hF⟩
  · by_cases c2 : Er1 = "java/lang/IndexOutOfBoundsException"
    · have hF := zif hF c2
      subst c2
      refine z_lcatchV (n := 2) (As := [.int x2, .int x3]) (name := "java/lang/IndexOutOfBoundsException") (pre9 := []) (x9 := ⟨0, 10, 13, 19⟩) (suf9 := [⟨0, 10, 17, 21⟩, ⟨0, 10, 21, 13⟩]) C XE (c_X7_renew l hl D cI cJ cZ ab a5 a3 a6 a1 a0 B P M T K U L x2 x3 (.inl "java/lang/IndexOutOfBoundsException") er1) gL_renew_X7_renew rfl (by decide +kernel) ⟨Nat.le_of_ble_eq_true rfl, Nat.le_of_ble_eq_true rfl⟩ ⟨Nat.le_refl 1, Nat.le_refl 6⟩ 0 rfl rfl [] (zwO cJ ao O) rfl rfl rfl (Nat.le_of_ble_eq_true rfl) dL_renew_5 XT (fun z hz => absurd hz List.not_mem_nil) (by decide) (by decide) kL_renew_19 XE.2.2.1.1.2.2 (fun q3 => ?_)
      refine z_astore (lv' := [(4, .ref q3), (0, .ref ab), (1, .int x2), (2, .int x3), (3, .ref ao)]) C dL_renew_13 (by decide) rfl ?_
      refine z_iconst (v := 1) C dL_renew_15 (by decide) ?_
      have hu := Option.some.inj hF
      subst hu
      exact z_lret1 C dL_renew_16 rfl rfl
    · have hF := zelse hF c2
      by_cases c4 : Er1 = "java/lang/IllegalArgumentException"
      · have hF := zif hF c4
        subst c4
        refine z_lcatchV (n := 2) (As := [.int x2, .int x3]) (name := "java/lang/IllegalArgumentException") (pre9 := [⟨0, 10, 13, 19⟩]) (x9 := ⟨0, 10, 17, 21⟩) (suf9 := [⟨0, 10, 21, 13⟩]) C XE (c_X7_renew l hl D cI cJ cZ ab a5 a3 a6 a1 a0 B P M T K U L x2 x3 (.inl "java/lang/IllegalArgumentException") er1) gL_renew_X7_renew rfl (by decide +kernel) ⟨Nat.le_of_ble_eq_true rfl, Nat.le_of_ble_eq_true rfl⟩ ⟨Nat.le_refl 1, Nat.le_refl 6⟩ 0 rfl rfl [] (zwO cJ ao O) rfl rfl rfl (Nat.le_of_ble_eq_true rfl) dL_renew_5 XT (List.forall_mem_cons.mpr ⟨Or.inr ⟨by decide, "java/lang/IndexOutOfBoundsException", C.2.2.2.2.1 _ kL_renew_19, XN.1⟩, (fun _ h => absurd h List.not_mem_nil)⟩) (by decide) (by decide) kL_renew_21 XE.2.2.1.1.2.1 (fun q5 => ?_)
        refine z_astore (lv' := [(4, .ref q5), (0, .ref ab), (1, .int x2), (2, .int x3), (3, .ref ao)]) C dL_renew_17 (by decide) rfl ?_
        refine z_iconst (v := 2) C dL_renew_19 (by decide) ?_
        have hu := Option.some.inj hF
        subst hu
        exact z_lret1 C dL_renew_20 rfl rfl
      · have hF := zelse hF c4
        by_cases c6 : Er1 = "java/lang/IllegalStateException"
        · have hF := zif hF c6
          subst c6
          refine z_lcatchV (n := 2) (As := [.int x2, .int x3]) (name := "java/lang/IllegalStateException") (pre9 := [⟨0, 10, 13, 19⟩, ⟨0, 10, 17, 21⟩]) (x9 := ⟨0, 10, 21, 13⟩) (suf9 := []) C XE (c_X7_renew l hl D cI cJ cZ ab a5 a3 a6 a1 a0 B P M T K U L x2 x3 (.inl "java/lang/IllegalStateException") er1) gL_renew_X7_renew rfl (by decide +kernel) ⟨Nat.le_of_ble_eq_true rfl, Nat.le_of_ble_eq_true rfl⟩ ⟨Nat.le_refl 1, Nat.le_refl 6⟩ 0 rfl rfl [] (zwO cJ ao O) rfl rfl rfl (Nat.le_of_ble_eq_true rfl) dL_renew_5 XT (List.forall_mem_cons.mpr ⟨Or.inr ⟨by decide, "java/lang/IndexOutOfBoundsException", C.2.2.2.2.1 _ kL_renew_19, XN.2.1⟩, (List.forall_mem_cons.mpr ⟨Or.inr ⟨by decide, "java/lang/IllegalArgumentException", C.2.2.2.2.1 _ kL_renew_21, XN.2.2⟩, (fun _ h => absurd h List.not_mem_nil)⟩)⟩) (by decide) (by decide) kL_renew_13 XE.2.2.1.1.1 (fun q7 => ?_)
          refine z_astore (lv' := [(4, .ref q7), (0, .ref ab), (1, .int x2), (2, .int x3), (3, .ref ao)]) C dL_renew_21 (by decide) rfl ?_
          refine z_iconst (v := 3) C dL_renew_23 (by decide) ?_
          have hu := Option.some.inj hF
          subst hu
          exact z_lret1 C dL_renew_24 rfl rfl
        · have hF := zelse hF c6
          exact absurd hF (fun q => nomatch q)
  · refine z_xcallV_R (n := 2) (As := [.int x2, .int x3]) (ws' := (zwX7 cI cJ cZ ab a5 a3 a6 a1 a0 B P M r1.2.1 K r1.2.2.1 r1.2.2.2 ++ zwO cJ ao O)) C XE (c_X7_renew l hl D cI cJ cZ ab a5 a3 a6 a1 a0 B P M T K U L x2 x3 (.inr r1) er1) gL_renew_X7_renew rfl (by decide +kernel) ⟨Nat.le_of_ble_eq_true rfl, Nat.le_of_ble_eq_true rfl⟩ ⟨Nat.zero_le _, Nat.zero_le _⟩ 0 rfl rfl [] (zwO cJ ao O) rfl rfl rfl rfl (Nat.le_of_ble_eq_true rfl) dL_renew_5 ?_
    refine z_i2l C dL_renew_8 ?_
    obtain ⟨g8, hF⟩ := zix_some hF
    refine z_last (ws' := (zwX7 cI cJ cZ ab a5 a3 a6 a1 a0 B P M r1.2.1 K r1.2.2.1 r1.2.2.2 ++ zwO cJ ao (vp_updL O (0 : Int32).toNatClampNeg ((r1.1).toInt64)))) C g8 30 rfl rfl dL_renew_9 (zr_O cI cJ cZ ab a5 a3 a6 a1 a0 B P M r1.2.1 K r1.2.2.1 r1.2.2.2 ao O ((0 : Int32).toNatClampNeg) ((r1.1).toInt64)) ?_
    refine z_goto (tgt := 25) C dL_renew_10 (by decide) ?_
    refine z_iconst (v := 0) C dL_renew_25 (by decide) ?_
    have hu := Option.some.inj hF
    subst hu
    refine z_widen (k := 1) (n := 6) (Nat.zero_le _) (Nat.zero_le _) ?_
    exact z_lret1 C dL_renew_26 rfl rfl
theorem kL_revoke_19 : Cond.classLink RL 19 "java/lang/IndexOutOfBoundsException" ∈ wsL_revoke := by decide +kernel
theorem kL_revoke_13 : Cond.classLink RL 13 "java/lang/IllegalStateException" ∈ wsL_revoke := by decide +kernel
set_option maxHeartbeats 4000000 in
set_option maxRecDepth 100000 in
theorem c_L_revoke (l : Launch) (hl : l.stackTraces = false) (D : va_G) (cI cJ cZ : ClassId) (ab : Nat) (a5 : Nat → Nat) (a3 : Nat → Nat) (a6 : Nat → Nat) (a1 : Nat → Nat) (a0 : Nat → Nat) (ao : Nat) (B : SS) (P : SS) (M : SS) (T : SS) (K : SS) (U : SS) (L : SL) (O : SL) (x2 : Int32) (u : Int32 × SS × SS × SS × SL × SL) (hF : f_L_revoke B T K U L O x2 = some u) : zL l yL_revoke wsL_revoke 9 155 D (zTy cI cJ cZ) [.ref ab, .int x2, .ref ao] (zwX7 cI cJ cZ ab a5 a3 a6 a1 a0 B P M T K U L ++ zwO cJ ao O) (some (.int u.1)) (zwX7 cI cJ cZ ab a5 a3 a6 a1 a0 B P M u.2.1 u.2.2.1 u.2.2.2.1 u.2.2.2.2.1 ++ zwO cJ ao u.2.2.2.2.2) := by
  refine z_lbody (cc := cL_revoke) (maxL := 4) (rty := (some .int)) (hh := [(0, 9, 12, 19), (0, 9, 15, 13)]) (own := RL) (lv := [(0, .ref ab), (1, .int x2), (2, .ref ao)]) (by decide +kernel) rfl rfl (Nat.le_of_ble_eq_true rfl) rfl (fun p e s m args below meth c A C XE XN XT => ?_)
  refine z_aload_n C dL_revoke_0 rfl 2 rfl ?_
  refine z_iconst (v := 0) C dL_revoke_1 (by decide) ?_
  refine z_aload_n C dL_revoke_2 rfl 0 rfl ?_
  refine z_iload_n C dL_revoke_3 rfl 1 rfl ?_
  rcases zca_some hF with ⟨Er1, er1, hF⟩ | ⟨r1, er1, hF⟩
  · by_cases c2 : Er1 = "java/lang/IndexOutOfBoundsException"
    · have hF := zif hF c2
      subst c2
      refine z_lcatchV (n := 1) (As := [.int x2]) (name := "java/lang/IndexOutOfBoundsException") (pre9 := []) (x9 := ⟨0, 9, 12, 19⟩) (suf9 := [⟨0, 9, 15, 13⟩]) C XE (c_X7_revoke l hl D cI cJ cZ ab a5 a3 a6 a1 a0 B P M T K U L x2 (.inl "java/lang/IndexOutOfBoundsException") er1) gL_revoke_X7_revoke rfl (by decide +kernel) ⟨Nat.le_of_ble_eq_true rfl, Nat.le_of_ble_eq_true rfl⟩ ⟨Nat.le_refl 1, Nat.le_refl 6⟩ 0 rfl rfl [] (zwO cJ ao O) rfl rfl rfl (Nat.le_of_ble_eq_true rfl) dL_revoke_4 XT (fun z hz => absurd hz List.not_mem_nil) (by decide) (by decide) kL_revoke_19 XE.2.2.1.1.2.2 (fun q3 => ?_)
      refine z_astore_n (lv' := [(3, .ref q3), (0, .ref ab), (1, .int x2), (2, .ref ao)]) C dL_revoke_12 rfl (by decide) rfl ?_
      refine z_iconst (v := 1) C dL_revoke_13 (by decide) ?_
      have hu := Option.some.inj hF
      subst hu
      exact z_lret1 C dL_revoke_14 rfl rfl
    · have hF := zelse hF c2
      by_cases c4 : Er1 = "java/lang/IllegalStateException"
      · have hF := zif hF c4
        subst c4
        refine z_lcatchV (n := 1) (As := [.int x2]) (name := "java/lang/IllegalStateException") (pre9 := [⟨0, 9, 12, 19⟩]) (x9 := ⟨0, 9, 15, 13⟩) (suf9 := []) C XE (c_X7_revoke l hl D cI cJ cZ ab a5 a3 a6 a1 a0 B P M T K U L x2 (.inl "java/lang/IllegalStateException") er1) gL_revoke_X7_revoke rfl (by decide +kernel) ⟨Nat.le_of_ble_eq_true rfl, Nat.le_of_ble_eq_true rfl⟩ ⟨Nat.le_refl 1, Nat.le_refl 6⟩ 0 rfl rfl [] (zwO cJ ao O) rfl rfl rfl (Nat.le_of_ble_eq_true rfl) dL_revoke_4 XT (List.forall_mem_cons.mpr ⟨Or.inr ⟨by decide, "java/lang/IndexOutOfBoundsException", C.2.2.2.2.1 _ kL_revoke_19, XN.2.1⟩, (fun _ h => absurd h List.not_mem_nil)⟩) (by decide) (by decide) kL_revoke_13 XE.2.2.1.1.1 (fun q5 => ?_)
        refine z_astore_n (lv' := [(3, .ref q5), (0, .ref ab), (1, .int x2), (2, .ref ao)]) C dL_revoke_15 rfl (by decide) rfl ?_
        refine z_iconst (v := 2) C dL_revoke_16 (by decide) ?_
        have hu := Option.some.inj hF
        subst hu
        exact z_lret1 C dL_revoke_17 rfl rfl
      · have hF := zelse hF c4
        exact absurd hF (fun q => nomatch q)
  · refine z_xcallV_R (n := 1) (As := [.int x2]) (ws' := (zwX7 cI cJ cZ ab a5 a3 a6 a1 a0 B P M r1.2.1 r1.2.2.1 r1.2.2.2.1 r1.2.2.2.2 ++ zwO cJ ao O)) C XE (c_X7_revoke l hl D cI cJ cZ ab a5 a3 a6 a1 a0 B P M T K U L x2 (.inr r1) er1) gL_revoke_X7_revoke rfl (by decide +kernel) ⟨Nat.le_of_ble_eq_true rfl, Nat.le_of_ble_eq_true rfl⟩ ⟨Nat.zero_le _, Nat.zero_le _⟩ 0 rfl rfl [] (zwO cJ ao O) rfl rfl rfl rfl (Nat.le_of_ble_eq_true rfl) dL_revoke_4 ?_
    refine z_i2l C dL_revoke_7 ?_
    obtain ⟨g6, hF⟩ := zix_some hF
    refine z_last (ws' := (zwX7 cI cJ cZ ab a5 a3 a6 a1 a0 B P M r1.2.1 r1.2.2.1 r1.2.2.2.1 r1.2.2.2.2 ++ zwO cJ ao (vp_updL O (0 : Int32).toNatClampNeg ((r1.1).toInt64)))) C g6 30 rfl rfl dL_revoke_8 (zr_O cI cJ cZ ab a5 a3 a6 a1 a0 B P M r1.2.1 r1.2.2.1 r1.2.2.2.1 r1.2.2.2.2 ao O ((0 : Int32).toNatClampNeg) ((r1.1).toInt64)) ?_
    refine z_goto (tgt := 18) C dL_revoke_9 (by decide) ?_
    refine z_iconst (v := 0) C dL_revoke_18 (by decide) ?_
    have hu := Option.some.inj hF
    subst hu
    refine z_widen (k := 1) (n := 6) (Nat.zero_le _) (Nat.zero_le _) ?_
    exact z_lret1 C dL_revoke_19 rfl rfl
theorem kL_revokeAlone_19 : Cond.classLink RL 19 "java/lang/IndexOutOfBoundsException" ∈ wsL_revokeAlone := by decide +kernel
theorem kL_revokeAlone_13 : Cond.classLink RL 13 "java/lang/IllegalStateException" ∈ wsL_revokeAlone := by decide +kernel
set_option maxHeartbeats 4000000 in
set_option maxRecDepth 100000 in
theorem c_L_revokeAlone (l : Launch) (hl : l.stackTraces = false) (D : va_G) (cI cJ cZ : ClassId) (ab : Nat) (a5 : Nat → Nat) (a3 : Nat → Nat) (a6 : Nat → Nat) (a1 : Nat → Nat) (a0 : Nat → Nat) (ao : Nat) (B : SS) (P : SS) (M : SS) (T : SS) (K : SS) (U : SS) (L : SL) (O : SL) (x2 : Int32) (u : Int32 × SS × SS × SS × SL × SL) (hF : f_L_revokeAlone B T K U L O x2 = some u) : zL l yL_revokeAlone wsL_revokeAlone 9 155 D (zTy cI cJ cZ) [.ref ab, .int x2, .ref ao] (zwX7 cI cJ cZ ab a5 a3 a6 a1 a0 B P M T K U L ++ zwO cJ ao O) (some (.int u.1)) (zwX7 cI cJ cZ ab a5 a3 a6 a1 a0 B P M u.2.1 u.2.2.1 u.2.2.2.1 u.2.2.2.2.1 ++ zwO cJ ao u.2.2.2.2.2) := by
  refine z_lbody (cc := cL_revokeAlone) (maxL := 4) (rty := (some .int)) (hh := [(0, 9, 12, 19), (0, 9, 15, 13)]) (own := RL) (lv := [(0, .ref ab), (1, .int x2), (2, .ref ao)]) (by decide +kernel) rfl rfl (Nat.le_of_ble_eq_true rfl) rfl (fun p e s m args below meth c A C XE XN XT => ?_)
  refine z_aload_n C dL_revokeAlone_0 rfl 2 rfl ?_
  refine z_iconst (v := 0) C dL_revokeAlone_1 (by decide) ?_
  refine z_aload_n C dL_revokeAlone_2 rfl 0 rfl ?_
  refine z_iload_n C dL_revokeAlone_3 rfl 1 rfl ?_
  rcases zca_some hF with ⟨Er1, er1, hF⟩ | ⟨r1, er1, hF⟩
  · by_cases c2 : Er1 = "java/lang/IndexOutOfBoundsException"
    · have hF := zif hF c2
      subst c2
      refine z_lcatchV (n := 1) (As := [.int x2]) (name := "java/lang/IndexOutOfBoundsException") (pre9 := []) (x9 := ⟨0, 9, 12, 19⟩) (suf9 := [⟨0, 9, 15, 13⟩]) C XE (c_X7_revokeAlone l hl D cI cJ cZ ab a5 a3 a6 a1 a0 B P M T K U L x2 (.inl "java/lang/IndexOutOfBoundsException") er1) gL_revokeAlone_X7_revokeAlone rfl (by decide +kernel) ⟨Nat.le_of_ble_eq_true rfl, Nat.le_of_ble_eq_true rfl⟩ ⟨Nat.le_refl 1, Nat.le_refl 6⟩ 0 rfl rfl [] (zwO cJ ao O) rfl rfl rfl (Nat.le_of_ble_eq_true rfl) dL_revokeAlone_4 XT (fun z hz => absurd hz List.not_mem_nil) (by decide) (by decide) kL_revokeAlone_19 XE.2.2.1.1.2.2 (fun q3 => ?_)
      refine z_astore_n (lv' := [(3, .ref q3), (0, .ref ab), (1, .int x2), (2, .ref ao)]) C dL_revokeAlone_12 rfl (by decide) rfl ?_
      refine z_iconst (v := 1) C dL_revokeAlone_13 (by decide) ?_
      have hu := Option.some.inj hF
      subst hu
      exact z_lret1 C dL_revokeAlone_14 rfl rfl
    · have hF := zelse hF c2
      by_cases c4 : Er1 = "java/lang/IllegalStateException"
      · have hF := zif hF c4
        subst c4
        refine z_lcatchV (n := 1) (As := [.int x2]) (name := "java/lang/IllegalStateException") (pre9 := [⟨0, 9, 12, 19⟩]) (x9 := ⟨0, 9, 15, 13⟩) (suf9 := []) C XE (c_X7_revokeAlone l hl D cI cJ cZ ab a5 a3 a6 a1 a0 B P M T K U L x2 (.inl "java/lang/IllegalStateException") er1) gL_revokeAlone_X7_revokeAlone rfl (by decide +kernel) ⟨Nat.le_of_ble_eq_true rfl, Nat.le_of_ble_eq_true rfl⟩ ⟨Nat.le_refl 1, Nat.le_refl 6⟩ 0 rfl rfl [] (zwO cJ ao O) rfl rfl rfl (Nat.le_of_ble_eq_true rfl) dL_revokeAlone_4 XT (List.forall_mem_cons.mpr ⟨Or.inr ⟨by decide, "java/lang/IndexOutOfBoundsException", C.2.2.2.2.1 _ kL_revokeAlone_19, XN.2.1⟩, (fun _ h => absurd h List.not_mem_nil)⟩) (by decide) (by decide) kL_revokeAlone_13 XE.2.2.1.1.1 (fun q5 => ?_)
        refine z_astore_n (lv' := [(3, .ref q5), (0, .ref ab), (1, .int x2), (2, .ref ao)]) C dL_revokeAlone_15 rfl (by decide) rfl ?_
        refine z_iconst (v := 2) C dL_revokeAlone_16 (by decide) ?_
        have hu := Option.some.inj hF
        subst hu
        exact z_lret1 C dL_revokeAlone_17 rfl rfl
      · have hF := zelse hF c4
        exact absurd hF (fun q => nomatch q)
  · refine z_xcallV_R (n := 1) (As := [.int x2]) (ws' := (zwX7 cI cJ cZ ab a5 a3 a6 a1 a0 B P M r1.2.1 r1.2.2.1 r1.2.2.2.1 r1.2.2.2.2 ++ zwO cJ ao O)) C XE (c_X7_revokeAlone l hl D cI cJ cZ ab a5 a3 a6 a1 a0 B P M T K U L x2 (.inr r1) er1) gL_revokeAlone_X7_revokeAlone rfl (by decide +kernel) ⟨Nat.le_of_ble_eq_true rfl, Nat.le_of_ble_eq_true rfl⟩ ⟨Nat.zero_le _, Nat.zero_le _⟩ 0 rfl rfl [] (zwO cJ ao O) rfl rfl rfl rfl (Nat.le_of_ble_eq_true rfl) dL_revokeAlone_4 ?_
    refine z_i2l C dL_revokeAlone_7 ?_
    obtain ⟨g6, hF⟩ := zix_some hF
    refine z_last (ws' := (zwX7 cI cJ cZ ab a5 a3 a6 a1 a0 B P M r1.2.1 r1.2.2.1 r1.2.2.2.1 r1.2.2.2.2 ++ zwO cJ ao (vp_updL O (0 : Int32).toNatClampNeg ((r1.1).toInt64)))) C g6 30 rfl rfl dL_revokeAlone_8 (zr_O cI cJ cZ ab a5 a3 a6 a1 a0 B P M r1.2.1 r1.2.2.1 r1.2.2.2.1 r1.2.2.2.2 ao O ((0 : Int32).toNatClampNeg) ((r1.1).toInt64)) ?_
    refine z_goto (tgt := 18) C dL_revokeAlone_9 (by decide) ?_
    refine z_iconst (v := 0) C dL_revokeAlone_18 (by decide) ?_
    have hu := Option.some.inj hF
    subst hu
    refine z_widen (k := 1) (n := 6) (Nat.zero_le _) (Nat.zero_le _) ?_
    exact z_lret1 C dL_revokeAlone_19 rfl rfl
theorem kL_isAlive_19 : Cond.classLink RL 19 "java/lang/IndexOutOfBoundsException" ∈ wsL_isAlive := by decide +kernel
set_option maxHeartbeats 4000000 in
set_option maxRecDepth 100000 in
theorem c_L_isAlive (l : Launch) (hl : l.stackTraces = false) (D : va_G) (cI cJ cZ : ClassId) (ab : Nat) (a5 : Nat → Nat) (a3 : Nat → Nat) (a6 : Nat → Nat) (a1 : Nat → Nat) (a0 : Nat → Nat) (ao : Nat) (B : SS) (P : SS) (M : SS) (T : SS) (K : SS) (U : SS) (L : SL) (O : SL) (x2 : Int32) (u : Int32 × SL) (hF : f_L_isAlive T O x2 = some u) : zL l yL_isAlive wsL_isAlive 8 134 D (zTy cI cJ cZ) [.ref ab, .int x2, .ref ao] (zwX7 cI cJ cZ ab a5 a3 a6 a1 a0 B P M T K U L ++ zwO cJ ao O) (some (.int u.1)) (zwX7 cI cJ cZ ab a5 a3 a6 a1 a0 B P M T K U L ++ zwO cJ ao u.2) := by
  refine z_lbody (cc := cL_isAlive) (maxL := 4) (rty := (some .int)) (hh := [(0, 16, 19, 19)]) (own := RL) (lv := [(0, .ref ab), (1, .int x2), (2, .ref ao)]) (by decide +kernel) rfl rfl (Nat.le_of_ble_eq_true rfl) rfl (fun p e s m args below meth c A C XE XN XT => ?_)
  refine z_aload_n C dL_isAlive_0 rfl 2 rfl ?_
  refine z_iconst (v := 0) C dL_isAlive_1 (by decide) ?_
  refine z_aload_n C dL_isAlive_2 rfl 0 rfl ?_
  refine z_iload_n C dL_isAlive_3 rfl 1 rfl ?_
  rcases zca_some hF with ⟨Er1, er1, hF⟩ | ⟨r1, er1, hF⟩
  · by_cases c2 : Er1 = "java/lang/IndexOutOfBoundsException"
    · have hF := zif hF c2
      subst c2
      refine z_lcatchV (n := 1) (As := [.int x2]) (name := "java/lang/IndexOutOfBoundsException") (pre9 := []) (x9 := ⟨0, 16, 19, 19⟩) (suf9 := []) C XE (c_X7_isAlive l hl D cI cJ cZ ab a5 a3 a6 a1 a0 B P M T K U L x2 (.inl "java/lang/IndexOutOfBoundsException") er1) gL_isAlive_X7_isAlive rfl (by decide +kernel) ⟨Nat.le_of_ble_eq_true rfl, Nat.le_of_ble_eq_true rfl⟩ ⟨Nat.le_refl 1, Nat.le_refl 6⟩ 0 rfl rfl [] (zwO cJ ao O) rfl rfl rfl (Nat.le_of_ble_eq_true rfl) dL_isAlive_4 XT (fun z hz => absurd hz List.not_mem_nil) (by decide) (by decide) kL_isAlive_19 XE.2.2.1.1.2.2 (fun q3 => ?_)
      refine z_astore_n (lv' := [(3, .ref q3), (0, .ref ab), (1, .int x2), (2, .ref ao)]) C dL_isAlive_19 rfl (by decide) rfl ?_
      refine z_iconst (v := 1) C dL_isAlive_20 (by decide) ?_
      have hu := Option.some.inj hF
      subst hu
      exact z_lret1 C dL_isAlive_21 rfl rfl
    · have hF := zelse hF c2
      exact absurd hF (fun q => nomatch q)
  · refine z_xcallV_R (n := 1) (As := [.int x2]) (ws' := (zwX7 cI cJ cZ ab a5 a3 a6 a1 a0 B P M T K U L ++ zwO cJ ao O)) C XE (c_X7_isAlive l hl D cI cJ cZ ab a5 a3 a6 a1 a0 B P M T K U L x2 (.inr r1) er1) gL_isAlive_X7_isAlive rfl (by decide +kernel) ⟨Nat.le_of_ble_eq_true rfl, Nat.le_of_ble_eq_true rfl⟩ ⟨Nat.zero_le _, Nat.zero_le _⟩ 0 rfl rfl [] (zwO cJ ao O) rfl rfl rfl rfl (Nat.le_of_ble_eq_true rfl) dL_isAlive_4 ?_
    refine z_if_eq (tgt := 14) C dL_isAlive_7 (by decide) (fun c4 => ?_) (fun c4 => ?_)
    · have hF := zif hF c4
      refine z_lconst (v := 0) C dL_isAlive_14 (by decide) ?_
      obtain ⟨g5, hF⟩ := zix_some hF
      refine z_last (ws' := (zwX7 cI cJ cZ ab a5 a3 a6 a1 a0 B P M T K U L ++ zwO cJ ao (vp_updL O (0 : Int32).toNatClampNeg 0))) C g5 30 rfl rfl dL_isAlive_15 (zr_O cI cJ cZ ab a5 a3 a6 a1 a0 B P M T K U L ao O ((0 : Int32).toNatClampNeg) 0) ?_
      refine z_goto (tgt := 22) C dL_isAlive_16 (by decide) ?_
      refine z_iconst (v := 0) C dL_isAlive_22 (by decide) ?_
      have hu := Option.some.inj hF
      subst hu
      refine z_widen (k := 1) (n := 6) (Nat.zero_le _) (Nat.zero_le _) ?_
      exact z_lret1 C dL_isAlive_23 rfl rfl
    · have hF := zelse hF c4
      refine z_lconst (v := 1) C dL_isAlive_10 (by decide) ?_
      refine z_goto (tgt := 15) C dL_isAlive_11 (by decide) ?_
      obtain ⟨g6, hF⟩ := zix_some hF
      refine z_last (ws' := (zwX7 cI cJ cZ ab a5 a3 a6 a1 a0 B P M T K U L ++ zwO cJ ao (vp_updL O (0 : Int32).toNatClampNeg 1))) C g6 30 rfl rfl dL_isAlive_15 (zr_O cI cJ cZ ab a5 a3 a6 a1 a0 B P M T K U L ao O ((0 : Int32).toNatClampNeg) 1) ?_
      refine z_goto (tgt := 22) C dL_isAlive_16 (by decide) ?_
      refine z_iconst (v := 0) C dL_isAlive_22 (by decide) ?_
      have hu := Option.some.inj hF
      subst hu
      refine z_widen (k := 1) (n := 6) (Nat.zero_le _) (Nat.zero_le _) ?_
      exact z_lret1 C dL_isAlive_23 rfl rfl
theorem kL_parentOf_19 : Cond.classLink RL 19 "java/lang/IndexOutOfBoundsException" ∈ wsL_parentOf := by decide +kernel
set_option maxHeartbeats 4000000 in
set_option maxRecDepth 100000 in
theorem c_L_parentOf (l : Launch) (hl : l.stackTraces = false) (D : va_G) (cI cJ cZ : ClassId) (ab : Nat) (a5 : Nat → Nat) (a3 : Nat → Nat) (a6 : Nat → Nat) (a1 : Nat → Nat) (a0 : Nat → Nat) (ao : Nat) (B : SS) (P : SS) (M : SS) (T : SS) (K : SS) (U : SS) (L : SL) (O : SL) (x2 : Int32) (u : Int32 × SL) (hF : f_L_parentOf T O x2 = some u) : zL l yL_parentOf wsL_parentOf 8 134 D (zTy cI cJ cZ) [.ref ab, .int x2, .ref ao] (zwX7 cI cJ cZ ab a5 a3 a6 a1 a0 B P M T K U L ++ zwO cJ ao O) (some (.int u.1)) (zwX7 cI cJ cZ ab a5 a3 a6 a1 a0 B P M T K U L ++ zwO cJ ao u.2) := by
  refine z_lbody (cc := cL_parentOf) (maxL := 4) (rty := (some .int)) (hh := [(0, 9, 12, 19)]) (own := RL) (lv := [(0, .ref ab), (1, .int x2), (2, .ref ao)]) (by decide +kernel) rfl rfl (Nat.le_of_ble_eq_true rfl) rfl (fun p e s m args below meth c A C XE XN XT => ?_)
  refine z_aload_n C dL_parentOf_0 rfl 2 rfl ?_
  refine z_iconst (v := 0) C dL_parentOf_1 (by decide) ?_
  refine z_aload_n C dL_parentOf_2 rfl 0 rfl ?_
  refine z_iload_n C dL_parentOf_3 rfl 1 rfl ?_
  rcases zca_some hF with ⟨Er1, er1, hF⟩ | ⟨r1, er1, hF⟩
  · by_cases c2 : Er1 = "java/lang/IndexOutOfBoundsException"
    · have hF := zif hF c2
      subst c2
      refine z_lcatchV (n := 1) (As := [.int x2]) (name := "java/lang/IndexOutOfBoundsException") (pre9 := []) (x9 := ⟨0, 9, 12, 19⟩) (suf9 := []) C XE (c_X7_parentOf l hl D cI cJ cZ ab a5 a3 a6 a1 a0 B P M T K U L x2 (.inl "java/lang/IndexOutOfBoundsException") er1) gL_parentOf_X7_parentOf rfl (by decide +kernel) ⟨Nat.le_of_ble_eq_true rfl, Nat.le_of_ble_eq_true rfl⟩ ⟨Nat.le_refl 1, Nat.le_refl 6⟩ 0 rfl rfl [] (zwO cJ ao O) rfl rfl rfl (Nat.le_of_ble_eq_true rfl) dL_parentOf_4 XT (fun z hz => absurd hz List.not_mem_nil) (by decide) (by decide) kL_parentOf_19 XE.2.2.1.1.2.2 (fun q3 => ?_)
      refine z_astore_n (lv' := [(3, .ref q3), (0, .ref ab), (1, .int x2), (2, .ref ao)]) C dL_parentOf_12 rfl (by decide) rfl ?_
      refine z_iconst (v := 1) C dL_parentOf_13 (by decide) ?_
      have hu := Option.some.inj hF
      subst hu
      exact z_lret1 C dL_parentOf_14 rfl rfl
    · have hF := zelse hF c2
      exact absurd hF (fun q => nomatch q)
  · refine z_xcallV_R (n := 1) (As := [.int x2]) (ws' := (zwX7 cI cJ cZ ab a5 a3 a6 a1 a0 B P M T K U L ++ zwO cJ ao O)) C XE (c_X7_parentOf l hl D cI cJ cZ ab a5 a3 a6 a1 a0 B P M T K U L x2 (.inr r1) er1) gL_parentOf_X7_parentOf rfl (by decide +kernel) ⟨Nat.le_of_ble_eq_true rfl, Nat.le_of_ble_eq_true rfl⟩ ⟨Nat.zero_le _, Nat.zero_le _⟩ 0 rfl rfl [] (zwO cJ ao O) rfl rfl rfl rfl (Nat.le_of_ble_eq_true rfl) dL_parentOf_4 ?_
    refine z_i2l C dL_parentOf_7 ?_
    obtain ⟨g4, hF⟩ := zix_some hF
    refine z_last (ws' := (zwX7 cI cJ cZ ab a5 a3 a6 a1 a0 B P M T K U L ++ zwO cJ ao (vp_updL O (0 : Int32).toNatClampNeg ((r1).toInt64)))) C g4 30 rfl rfl dL_parentOf_8 (zr_O cI cJ cZ ab a5 a3 a6 a1 a0 B P M T K U L ao O ((0 : Int32).toNatClampNeg) ((r1).toInt64)) ?_
    refine z_goto (tgt := 15) C dL_parentOf_9 (by decide) ?_
    refine z_iconst (v := 0) C dL_parentOf_15 (by decide) ?_
    have hu := Option.some.inj hF
    subst hu
    refine z_widen (k := 1) (n := 6) (Nat.zero_le _) (Nat.zero_le _) ?_
    exact z_lret1 C dL_parentOf_16 rfl rfl
theorem kL_endOf_19 : Cond.classLink RL 19 "java/lang/IndexOutOfBoundsException" ∈ wsL_endOf := by decide +kernel
set_option maxHeartbeats 4000000 in
set_option maxRecDepth 100000 in
theorem c_L_endOf (l : Launch) (hl : l.stackTraces = false) (D : va_G) (cI cJ cZ : ClassId) (ab : Nat) (a5 : Nat → Nat) (a3 : Nat → Nat) (a6 : Nat → Nat) (a1 : Nat → Nat) (a0 : Nat → Nat) (ao : Nat) (B : SS) (P : SS) (M : SS) (T : SS) (K : SS) (U : SS) (L : SL) (O : SL) (x2 : Int32) (u : Int32 × SL) (hF : f_L_endOf T O x2 = some u) : zL l yL_endOf wsL_endOf 8 134 D (zTy cI cJ cZ) [.ref ab, .int x2, .ref ao] (zwX7 cI cJ cZ ab a5 a3 a6 a1 a0 B P M T K U L ++ zwO cJ ao O) (some (.int u.1)) (zwX7 cI cJ cZ ab a5 a3 a6 a1 a0 B P M T K U L ++ zwO cJ ao u.2) := by
  refine z_lbody (cc := cL_endOf) (maxL := 4) (rty := (some .int)) (hh := [(0, 9, 12, 19)]) (own := RL) (lv := [(0, .ref ab), (1, .int x2), (2, .ref ao)]) (by decide +kernel) rfl rfl (Nat.le_of_ble_eq_true rfl) rfl (fun p e s m args below meth c A C XE XN XT => ?_)
  refine z_aload_n C dL_endOf_0 rfl 2 rfl ?_
  refine z_iconst (v := 0) C dL_endOf_1 (by decide) ?_
  refine z_aload_n C dL_endOf_2 rfl 0 rfl ?_
  refine z_iload_n C dL_endOf_3 rfl 1 rfl ?_
  rcases zca_some hF with ⟨Er1, er1, hF⟩ | ⟨r1, er1, hF⟩
  · by_cases c2 : Er1 = "java/lang/IndexOutOfBoundsException"
    · have hF := zif hF c2
      subst c2
      refine z_lcatchV (n := 1) (As := [.int x2]) (name := "java/lang/IndexOutOfBoundsException") (pre9 := []) (x9 := ⟨0, 9, 12, 19⟩) (suf9 := []) C XE (c_X7_endOf l hl D cI cJ cZ ab a5 a3 a6 a1 a0 B P M T K U L x2 (.inl "java/lang/IndexOutOfBoundsException") er1) gL_endOf_X7_endOf rfl (by decide +kernel) ⟨Nat.le_of_ble_eq_true rfl, Nat.le_of_ble_eq_true rfl⟩ ⟨Nat.le_refl 1, Nat.le_refl 6⟩ 0 rfl rfl [] (zwO cJ ao O) rfl rfl rfl (Nat.le_of_ble_eq_true rfl) dL_endOf_4 XT (fun z hz => absurd hz List.not_mem_nil) (by decide) (by decide) kL_endOf_19 XE.2.2.1.1.2.2 (fun q3 => ?_)
      refine z_astore_n (lv' := [(3, .ref q3), (0, .ref ab), (1, .int x2), (2, .ref ao)]) C dL_endOf_12 rfl (by decide) rfl ?_
      refine z_iconst (v := 1) C dL_endOf_13 (by decide) ?_
      have hu := Option.some.inj hF
      subst hu
      exact z_lret1 C dL_endOf_14 rfl rfl
    · have hF := zelse hF c2
      exact absurd hF (fun q => nomatch q)
  · refine z_xcallV_R (n := 1) (As := [.int x2]) (ws' := (zwX7 cI cJ cZ ab a5 a3 a6 a1 a0 B P M T K U L ++ zwO cJ ao O)) C XE (c_X7_endOf l hl D cI cJ cZ ab a5 a3 a6 a1 a0 B P M T K U L x2 (.inr r1) er1) gL_endOf_X7_endOf rfl (by decide +kernel) ⟨Nat.le_of_ble_eq_true rfl, Nat.le_of_ble_eq_true rfl⟩ ⟨Nat.zero_le _, Nat.zero_le _⟩ 0 rfl rfl [] (zwO cJ ao O) rfl rfl rfl rfl (Nat.le_of_ble_eq_true rfl) dL_endOf_4 ?_
    refine z_i2l C dL_endOf_7 ?_
    obtain ⟨g4, hF⟩ := zix_some hF
    refine z_last (ws' := (zwX7 cI cJ cZ ab a5 a3 a6 a1 a0 B P M T K U L ++ zwO cJ ao (vp_updL O (0 : Int32).toNatClampNeg ((r1).toInt64)))) C g4 30 rfl rfl dL_endOf_8 (zr_O cI cJ cZ ab a5 a3 a6 a1 a0 B P M T K U L ao O ((0 : Int32).toNatClampNeg) ((r1).toInt64)) ?_
    refine z_goto (tgt := 15) C dL_endOf_9 (by decide) ?_
    refine z_iconst (v := 0) C dL_endOf_15 (by decide) ?_
    have hu := Option.some.inj hF
    subst hu
    refine z_widen (k := 1) (n := 6) (Nat.zero_le _) (Nat.zero_le _) ?_
    exact z_lret1 C dL_endOf_16 rfl rfl
theorem kL_usesLeft_19 : Cond.classLink RL 19 "java/lang/IndexOutOfBoundsException" ∈ wsL_usesLeft := by decide +kernel
set_option maxHeartbeats 4000000 in
set_option maxRecDepth 100000 in
theorem c_L_usesLeft (l : Launch) (hl : l.stackTraces = false) (D : va_G) (cI cJ cZ : ClassId) (ab : Nat) (a5 : Nat → Nat) (a3 : Nat → Nat) (a6 : Nat → Nat) (a1 : Nat → Nat) (a0 : Nat → Nat) (ao : Nat) (B : SS) (P : SS) (M : SS) (T : SS) (K : SS) (U : SS) (L : SL) (O : SL) (x2 : Int32) (u : Int32 × SL) (hF : f_L_usesLeft T O x2 = some u) : zL l yL_usesLeft wsL_usesLeft 8 134 D (zTy cI cJ cZ) [.ref ab, .int x2, .ref ao] (zwX7 cI cJ cZ ab a5 a3 a6 a1 a0 B P M T K U L ++ zwO cJ ao O) (some (.int u.1)) (zwX7 cI cJ cZ ab a5 a3 a6 a1 a0 B P M T K U L ++ zwO cJ ao u.2) := by
  refine z_lbody (cc := cL_usesLeft) (maxL := 4) (rty := (some .int)) (hh := [(0, 9, 12, 19)]) (own := RL) (lv := [(0, .ref ab), (1, .int x2), (2, .ref ao)]) (by decide +kernel) rfl rfl (Nat.le_of_ble_eq_true rfl) rfl (fun p e s m args below meth c A C XE XN XT => ?_)
  refine z_aload_n C dL_usesLeft_0 rfl 2 rfl ?_
  refine z_iconst (v := 0) C dL_usesLeft_1 (by decide) ?_
  refine z_aload_n C dL_usesLeft_2 rfl 0 rfl ?_
  refine z_iload_n C dL_usesLeft_3 rfl 1 rfl ?_
  rcases zca_some hF with ⟨Er1, er1, hF⟩ | ⟨r1, er1, hF⟩
  · by_cases c2 : Er1 = "java/lang/IndexOutOfBoundsException"
    · have hF := zif hF c2
      subst c2
      refine z_lcatchV (n := 1) (As := [.int x2]) (name := "java/lang/IndexOutOfBoundsException") (pre9 := []) (x9 := ⟨0, 9, 12, 19⟩) (suf9 := []) C XE (c_X7_usesLeft l hl D cI cJ cZ ab a5 a3 a6 a1 a0 B P M T K U L x2 (.inl "java/lang/IndexOutOfBoundsException") er1) gL_usesLeft_X7_usesLeft rfl (by decide +kernel) ⟨Nat.le_of_ble_eq_true rfl, Nat.le_of_ble_eq_true rfl⟩ ⟨Nat.le_refl 1, Nat.le_refl 6⟩ 0 rfl rfl [] (zwO cJ ao O) rfl rfl rfl (Nat.le_of_ble_eq_true rfl) dL_usesLeft_4 XT (fun z hz => absurd hz List.not_mem_nil) (by decide) (by decide) kL_usesLeft_19 XE.2.2.1.1.2.2 (fun q3 => ?_)
      refine z_astore_n (lv' := [(3, .ref q3), (0, .ref ab), (1, .int x2), (2, .ref ao)]) C dL_usesLeft_12 rfl (by decide) rfl ?_
      refine z_iconst (v := 1) C dL_usesLeft_13 (by decide) ?_
      have hu := Option.some.inj hF
      subst hu
      exact z_lret1 C dL_usesLeft_14 rfl rfl
    · have hF := zelse hF c2
      exact absurd hF (fun q => nomatch q)
  · refine z_xcallV_R (n := 1) (As := [.int x2]) (ws' := (zwX7 cI cJ cZ ab a5 a3 a6 a1 a0 B P M T K U L ++ zwO cJ ao O)) C XE (c_X7_usesLeft l hl D cI cJ cZ ab a5 a3 a6 a1 a0 B P M T K U L x2 (.inr r1) er1) gL_usesLeft_X7_usesLeft rfl (by decide +kernel) ⟨Nat.le_of_ble_eq_true rfl, Nat.le_of_ble_eq_true rfl⟩ ⟨Nat.zero_le _, Nat.zero_le _⟩ 0 rfl rfl [] (zwO cJ ao O) rfl rfl rfl rfl (Nat.le_of_ble_eq_true rfl) dL_usesLeft_4 ?_
    refine z_i2l C dL_usesLeft_7 ?_
    obtain ⟨g4, hF⟩ := zix_some hF
    refine z_last (ws' := (zwX7 cI cJ cZ ab a5 a3 a6 a1 a0 B P M T K U L ++ zwO cJ ao (vp_updL O (0 : Int32).toNatClampNeg ((r1).toInt64)))) C g4 30 rfl rfl dL_usesLeft_8 (zr_O cI cJ cZ ab a5 a3 a6 a1 a0 B P M T K U L ao O ((0 : Int32).toNatClampNeg) ((r1).toInt64)) ?_
    refine z_goto (tgt := 15) C dL_usesLeft_9 (by decide) ?_
    refine z_iconst (v := 0) C dL_usesLeft_15 (by decide) ?_
    have hu := Option.some.inj hF
    subst hu
    refine z_widen (k := 1) (n := 6) (Nat.zero_le _) (Nat.zero_le _) ?_
    exact z_lret1 C dL_usesLeft_16 rfl rfl
theorem kL_below_19 : Cond.classLink RL 19 "java/lang/IndexOutOfBoundsException" ∈ wsL_below := by decide +kernel
set_option maxHeartbeats 4000000 in
set_option maxRecDepth 100000 in
theorem c_L_below (l : Launch) (hl : l.stackTraces = false) (D : va_G) (cI cJ cZ : ClassId) (ab : Nat) (a5 : Nat → Nat) (a3 : Nat → Nat) (a6 : Nat → Nat) (a1 : Nat → Nat) (a0 : Nat → Nat) (ao : Nat) (B : SS) (P : SS) (M : SS) (T : SS) (K : SS) (U : SS) (L : SL) (O : SL) (x2 : Int32) (u : Int32 × SL) (hF : f_L_below T O x2 = some u) : zL l yL_below wsL_below 8 134 D (zTy cI cJ cZ) [.ref ab, .int x2, .ref ao] (zwX7 cI cJ cZ ab a5 a3 a6 a1 a0 B P M T K U L ++ zwO cJ ao O) (some (.int u.1)) (zwX7 cI cJ cZ ab a5 a3 a6 a1 a0 B P M T K U L ++ zwO cJ ao u.2) := by
  refine z_lbody (cc := cL_below) (maxL := 4) (rty := (some .int)) (hh := [(0, 9, 12, 19)]) (own := RL) (lv := [(0, .ref ab), (1, .int x2), (2, .ref ao)]) (by decide +kernel) rfl rfl (Nat.le_of_ble_eq_true rfl) rfl (fun p e s m args below meth c A C XE XN XT => ?_)
  refine z_aload_n C dL_below_0 rfl 2 rfl ?_
  refine z_iconst (v := 0) C dL_below_1 (by decide) ?_
  refine z_aload_n C dL_below_2 rfl 0 rfl ?_
  refine z_iload_n C dL_below_3 rfl 1 rfl ?_
  rcases zca_some hF with ⟨Er1, er1, hF⟩ | ⟨r1, er1, hF⟩
  · by_cases c2 : Er1 = "java/lang/IndexOutOfBoundsException"
    · have hF := zif hF c2
      subst c2
      refine z_lcatchV (n := 1) (As := [.int x2]) (name := "java/lang/IndexOutOfBoundsException") (pre9 := []) (x9 := ⟨0, 9, 12, 19⟩) (suf9 := []) C XE (c_X7_below l hl D cI cJ cZ ab a5 a3 a6 a1 a0 B P M T K U L x2 (.inl "java/lang/IndexOutOfBoundsException") er1) gL_below_X7_below rfl (by decide +kernel) ⟨Nat.le_of_ble_eq_true rfl, Nat.le_of_ble_eq_true rfl⟩ ⟨Nat.le_refl 1, Nat.le_refl 6⟩ 0 rfl rfl [] (zwO cJ ao O) rfl rfl rfl (Nat.le_of_ble_eq_true rfl) dL_below_4 XT (fun z hz => absurd hz List.not_mem_nil) (by decide) (by decide) kL_below_19 XE.2.2.1.1.2.2 (fun q3 => ?_)
      refine z_astore_n (lv' := [(3, .ref q3), (0, .ref ab), (1, .int x2), (2, .ref ao)]) C dL_below_12 rfl (by decide) rfl ?_
      refine z_iconst (v := 1) C dL_below_13 (by decide) ?_
      have hu := Option.some.inj hF
      subst hu
      exact z_lret1 C dL_below_14 rfl rfl
    · have hF := zelse hF c2
      exact absurd hF (fun q => nomatch q)
  · refine z_xcallV_R (n := 1) (As := [.int x2]) (ws' := (zwX7 cI cJ cZ ab a5 a3 a6 a1 a0 B P M T K U L ++ zwO cJ ao O)) C XE (c_X7_below l hl D cI cJ cZ ab a5 a3 a6 a1 a0 B P M T K U L x2 (.inr r1) er1) gL_below_X7_below rfl (by decide +kernel) ⟨Nat.le_of_ble_eq_true rfl, Nat.le_of_ble_eq_true rfl⟩ ⟨Nat.zero_le _, Nat.zero_le _⟩ 0 rfl rfl [] (zwO cJ ao O) rfl rfl rfl rfl (Nat.le_of_ble_eq_true rfl) dL_below_4 ?_
    refine z_i2l C dL_below_7 ?_
    obtain ⟨g4, hF⟩ := zix_some hF
    refine z_last (ws' := (zwX7 cI cJ cZ ab a5 a3 a6 a1 a0 B P M T K U L ++ zwO cJ ao (vp_updL O (0 : Int32).toNatClampNeg ((r1).toInt64)))) C g4 30 rfl rfl dL_below_8 (zr_O cI cJ cZ ab a5 a3 a6 a1 a0 B P M T K U L ao O ((0 : Int32).toNatClampNeg) ((r1).toInt64)) ?_
    refine z_goto (tgt := 15) C dL_below_9 (by decide) ?_
    refine z_iconst (v := 0) C dL_below_15 (by decide) ?_
    have hu := Option.some.inj hF
    subst hu
    refine z_widen (k := 1) (n := 6) (Nat.zero_le _) (Nat.zero_le _) ?_
    exact z_lret1 C dL_below_16 rfl rfl
theorem kL_capabilities_19 : Cond.classLink RL 19 "java/lang/IndexOutOfBoundsException" ∈ wsL_capabilities := by decide +kernel
theorem kL_capabilities_21 : Cond.classLink RL 21 "java/lang/IllegalArgumentException" ∈ wsL_capabilities := by decide +kernel
set_option maxHeartbeats 4000000 in
set_option maxRecDepth 100000 in
theorem c_L_capabilities (l : Launch) (hl : l.stackTraces = false) (D : va_G) (cI cJ cZ : ClassId) (ab : Nat) (a5 : Nat → Nat) (a3 : Nat → Nat) (a6 : Nat → Nat) (a1 : Nat → Nat) (a0 : Nat → Nat) (ao : Nat) (B : SS) (P : SS) (M : SS) (T : SS) (K : SS) (U : SS) (L : SL) (O : SL) (x2 : Int32) (x3 : Int32) (u : Int32 × SL) (hF : f_L_capabilities P T O x2 x3 = some u) : zL l yL_capabilities wsL_capabilities 8 145 D (zTy cI cJ cZ) [.ref ab, .int x2, .int x3, .ref ao] (zwX7 cI cJ cZ ab a5 a3 a6 a1 a0 B P M T K U L ++ zwO cJ ao O) (some (.int u.1)) (zwX7 cI cJ cZ ab a5 a3 a6 a1 a0 B P M T K U L ++ zwO cJ ao u.2) := by
  refine z_lbody (cc := cL_capabilities) (maxL := 5) (rty := (some .int)) (hh := [(0, 10, 13, 19), (0, 10, 17, 21)]) (own := RL) (lv := [(0, .ref ab), (1, .int x2), (2, .int x3), (3, .ref ao)]) (by decide +kernel) rfl rfl (Nat.le_of_ble_eq_true rfl) rfl (fun p e s m args below meth c A C XE XN XT => ?_)
  refine z_aload_n C dL_capabilities_0 rfl 3 rfl ?_
  refine z_iconst (v := 0) C dL_capabilities_1 (by decide) ?_
  refine z_aload_n C dL_capabilities_2 rfl 0 rfl ?_
  refine z_iload_n C dL_capabilities_3 rfl 1 rfl ?_
  refine z_iload_n C dL_capabilities_4 rfl 2 rfl ?_
  rcases zca_some hF with ⟨Er1, er1, hF⟩ | ⟨r1, er1, hF⟩
  · by_cases c2 : Er1 = "java/lang/IndexOutOfBoundsException"
    · have hF := zif hF c2
      subst c2
      refine z_lcatchV (n := 2) (As := [.int x2, .int x3]) (name := "java/lang/IndexOutOfBoundsException") (pre9 := []) (x9 := ⟨0, 10, 13, 19⟩) (suf9 := [⟨0, 10, 17, 21⟩]) C XE (c_X7_capabilities l hl D cI cJ cZ ab a5 a3 a6 a1 a0 B P M T K U L x2 x3 (.inl "java/lang/IndexOutOfBoundsException") er1) gL_capabilities_X7_capabilities rfl (by decide +kernel) ⟨Nat.le_of_ble_eq_true rfl, Nat.le_of_ble_eq_true rfl⟩ ⟨Nat.le_refl 1, Nat.le_refl 6⟩ 0 rfl rfl [] (zwO cJ ao O) rfl rfl rfl (Nat.le_of_ble_eq_true rfl) dL_capabilities_5 XT (fun z hz => absurd hz List.not_mem_nil) (by decide) (by decide) kL_capabilities_19 XE.2.2.1.1.2.2 (fun q3 => ?_)
      refine z_astore (lv' := [(4, .ref q3), (0, .ref ab), (1, .int x2), (2, .int x3), (3, .ref ao)]) C dL_capabilities_13 (by decide) rfl ?_
      refine z_iconst (v := 1) C dL_capabilities_15 (by decide) ?_
      have hu := Option.some.inj hF
      subst hu
      exact z_lret1 C dL_capabilities_16 rfl rfl
    · have hF := zelse hF c2
      by_cases c4 : Er1 = "java/lang/IllegalArgumentException"
      · have hF := zif hF c4
        subst c4
        refine z_lcatchV (n := 2) (As := [.int x2, .int x3]) (name := "java/lang/IllegalArgumentException") (pre9 := [⟨0, 10, 13, 19⟩]) (x9 := ⟨0, 10, 17, 21⟩) (suf9 := []) C XE (c_X7_capabilities l hl D cI cJ cZ ab a5 a3 a6 a1 a0 B P M T K U L x2 x3 (.inl "java/lang/IllegalArgumentException") er1) gL_capabilities_X7_capabilities rfl (by decide +kernel) ⟨Nat.le_of_ble_eq_true rfl, Nat.le_of_ble_eq_true rfl⟩ ⟨Nat.le_refl 1, Nat.le_refl 6⟩ 0 rfl rfl [] (zwO cJ ao O) rfl rfl rfl (Nat.le_of_ble_eq_true rfl) dL_capabilities_5 XT (List.forall_mem_cons.mpr ⟨Or.inr ⟨by decide, "java/lang/IndexOutOfBoundsException", C.2.2.2.2.1 _ kL_capabilities_19, XN.1⟩, (fun _ h => absurd h List.not_mem_nil)⟩) (by decide) (by decide) kL_capabilities_21 XE.2.2.1.1.2.1 (fun q5 => ?_)
        refine z_astore (lv' := [(4, .ref q5), (0, .ref ab), (1, .int x2), (2, .int x3), (3, .ref ao)]) C dL_capabilities_17 (by decide) rfl ?_
        refine z_iconst (v := 2) C dL_capabilities_19 (by decide) ?_
        have hu := Option.some.inj hF
        subst hu
        exact z_lret1 C dL_capabilities_20 rfl rfl
      · have hF := zelse hF c4
        exact absurd hF (fun q => nomatch q)
  · refine z_xcallV_R (n := 2) (As := [.int x2, .int x3]) (ws' := (zwX7 cI cJ cZ ab a5 a3 a6 a1 a0 B P M T K U L ++ zwO cJ ao O)) C XE (c_X7_capabilities l hl D cI cJ cZ ab a5 a3 a6 a1 a0 B P M T K U L x2 x3 (.inr r1) er1) gL_capabilities_X7_capabilities rfl (by decide +kernel) ⟨Nat.le_of_ble_eq_true rfl, Nat.le_of_ble_eq_true rfl⟩ ⟨Nat.zero_le _, Nat.zero_le _⟩ 0 rfl rfl [] (zwO cJ ao O) rfl rfl rfl rfl (Nat.le_of_ble_eq_true rfl) dL_capabilities_5 ?_
    refine z_i2l C dL_capabilities_8 ?_
    obtain ⟨g6, hF⟩ := zix_some hF
    refine z_last (ws' := (zwX7 cI cJ cZ ab a5 a3 a6 a1 a0 B P M T K U L ++ zwO cJ ao (vp_updL O (0 : Int32).toNatClampNeg ((r1).toInt64)))) C g6 30 rfl rfl dL_capabilities_9 (zr_O cI cJ cZ ab a5 a3 a6 a1 a0 B P M T K U L ao O ((0 : Int32).toNatClampNeg) ((r1).toInt64)) ?_
    refine z_goto (tgt := 21) C dL_capabilities_10 (by decide) ?_
    refine z_iconst (v := 0) C dL_capabilities_21 (by decide) ?_
    have hu := Option.some.inj hF
    subst hu
    refine z_widen (k := 1) (n := 6) (Nat.zero_le _) (Nat.zero_le _) ?_
    exact z_lret1 C dL_capabilities_22 rfl rfl
theorem kL_request_19 : Cond.classLink RL 19 "java/lang/IndexOutOfBoundsException" ∈ wsL_request := by decide +kernel
theorem kL_request_21 : Cond.classLink RL 21 "java/lang/IllegalArgumentException" ∈ wsL_request := by decide +kernel
theorem kL_request_13 : Cond.classLink RL 13 "java/lang/IllegalStateException" ∈ wsL_request := by decide +kernel
set_option maxHeartbeats 4000000 in
set_option maxRecDepth 100000 in
theorem c_L_request (l : Launch) (hl : l.stackTraces = false) (D : va_G) (cI cJ cZ : ClassId) (ab : Nat) (a5 : Nat → Nat) (a3 : Nat → Nat) (a6 : Nat → Nat) (a1 : Nat → Nat) (a0 : Nat → Nat) (ao : Nat) (B : SS) (P : SS) (M : SS) (T : SS) (K : SS) (U : SS) (L : SL) (O : SL) (x2 : Int32) (x3 : Int32) (u : Int32 × SS × SS × SS × SL × SL) (hF : f_L_request B P M T K U L O x2 x3 = some u) : zL l yL_request wsL_request 8 169 D (zTy cI cJ cZ) [.ref ab, .int x2, .int x3, .ref ao] (zwX7 cI cJ cZ ab a5 a3 a6 a1 a0 B P M T K U L ++ zwO cJ ao O) (some (.int u.1)) (zwX7 cI cJ cZ ab a5 a3 a6 a1 a0 B P M u.2.1 u.2.2.1 u.2.2.2.1 u.2.2.2.2.1 ++ zwO cJ ao u.2.2.2.2.2) := by
  refine z_lbody (cc := cL_request) (maxL := 5) (rty := (some .int)) (hh := [(0, 10, 13, 19), (0, 10, 17, 21), (0, 10, 21, 13)]) (own := RL) (lv := [(0, .ref ab), (1, .int x2), (2, .int x3), (3, .ref ao)]) (by decide +kernel) rfl rfl (Nat.le_of_ble_eq_true rfl) rfl (fun p e s m args below meth c A C XE XN XT => ?_)
  refine z_aload_n C dL_request_0 rfl 3 rfl ?_
  refine z_iconst (v := 0) C dL_request_1 (by decide) ?_
  refine z_aload_n C dL_request_2 rfl 0 rfl ?_
  refine z_iload_n C dL_request_3 rfl 1 rfl ?_
  refine z_iload_n C dL_request_4 rfl 2 rfl ?_
  rcases zca_some hF with ⟨Er1, er1, hF⟩ | ⟨r1, er1, hF⟩
  · by_cases c2 : Er1 = "java/lang/IndexOutOfBoundsException"
    · have hF := zif hF c2
      subst c2
      refine z_lcatchV (n := 2) (As := [.int x2, .int x3]) (name := "java/lang/IndexOutOfBoundsException") (pre9 := []) (x9 := ⟨0, 10, 13, 19⟩) (suf9 := [⟨0, 10, 17, 21⟩, ⟨0, 10, 21, 13⟩]) C XE (c_X7_request l hl D cI cJ cZ ab a5 a3 a6 a1 a0 B P M T K U L x2 x3 (.inl "java/lang/IndexOutOfBoundsException") er1) gL_request_X7_request rfl (by decide +kernel) ⟨Nat.le_of_ble_eq_true rfl, Nat.le_of_ble_eq_true rfl⟩ ⟨Nat.le_refl 1, Nat.le_refl 6⟩ 0 rfl rfl [] (zwO cJ ao O) rfl rfl rfl (Nat.le_of_ble_eq_true rfl) dL_request_5 XT (fun z hz => absurd hz List.not_mem_nil) (by decide) (by decide) kL_request_19 XE.2.2.1.1.2.2 (fun q3 => ?_)
      refine z_astore (lv' := [(4, .ref q3), (0, .ref ab), (1, .int x2), (2, .int x3), (3, .ref ao)]) C dL_request_13 (by decide) rfl ?_
      refine z_iconst (v := 1) C dL_request_15 (by decide) ?_
      have hu := Option.some.inj hF
      subst hu
      exact z_lret1 C dL_request_16 rfl rfl
    · have hF := zelse hF c2
      by_cases c4 : Er1 = "java/lang/IllegalArgumentException"
      · have hF := zif hF c4
        subst c4
        refine z_lcatchV (n := 2) (As := [.int x2, .int x3]) (name := "java/lang/IllegalArgumentException") (pre9 := [⟨0, 10, 13, 19⟩]) (x9 := ⟨0, 10, 17, 21⟩) (suf9 := [⟨0, 10, 21, 13⟩]) C XE (c_X7_request l hl D cI cJ cZ ab a5 a3 a6 a1 a0 B P M T K U L x2 x3 (.inl "java/lang/IllegalArgumentException") er1) gL_request_X7_request rfl (by decide +kernel) ⟨Nat.le_of_ble_eq_true rfl, Nat.le_of_ble_eq_true rfl⟩ ⟨Nat.le_refl 1, Nat.le_refl 6⟩ 0 rfl rfl [] (zwO cJ ao O) rfl rfl rfl (Nat.le_of_ble_eq_true rfl) dL_request_5 XT (List.forall_mem_cons.mpr ⟨Or.inr ⟨by decide, "java/lang/IndexOutOfBoundsException", C.2.2.2.2.1 _ kL_request_19, XN.1⟩, (fun _ h => absurd h List.not_mem_nil)⟩) (by decide) (by decide) kL_request_21 XE.2.2.1.1.2.1 (fun q5 => ?_)
        refine z_astore (lv' := [(4, .ref q5), (0, .ref ab), (1, .int x2), (2, .int x3), (3, .ref ao)]) C dL_request_17 (by decide) rfl ?_
        refine z_iconst (v := 2) C dL_request_19 (by decide) ?_
        have hu := Option.some.inj hF
        subst hu
        exact z_lret1 C dL_request_20 rfl rfl
      · have hF := zelse hF c4
        by_cases c6 : Er1 = "java/lang/IllegalStateException"
        · have hF := zif hF c6
          subst c6
          refine z_lcatchV (n := 2) (As := [.int x2, .int x3]) (name := "java/lang/IllegalStateException") (pre9 := [⟨0, 10, 13, 19⟩, ⟨0, 10, 17, 21⟩]) (x9 := ⟨0, 10, 21, 13⟩) (suf9 := []) C XE (c_X7_request l hl D cI cJ cZ ab a5 a3 a6 a1 a0 B P M T K U L x2 x3 (.inl "java/lang/IllegalStateException") er1) gL_request_X7_request rfl (by decide +kernel) ⟨Nat.le_of_ble_eq_true rfl, Nat.le_of_ble_eq_true rfl⟩ ⟨Nat.le_refl 1, Nat.le_refl 6⟩ 0 rfl rfl [] (zwO cJ ao O) rfl rfl rfl (Nat.le_of_ble_eq_true rfl) dL_request_5 XT (List.forall_mem_cons.mpr ⟨Or.inr ⟨by decide, "java/lang/IndexOutOfBoundsException", C.2.2.2.2.1 _ kL_request_19, XN.2.1⟩, (List.forall_mem_cons.mpr ⟨Or.inr ⟨by decide, "java/lang/IllegalArgumentException", C.2.2.2.2.1 _ kL_request_21, XN.2.2⟩, (fun _ h => absurd h List.not_mem_nil)⟩)⟩) (by decide) (by decide) kL_request_13 XE.2.2.1.1.1 (fun q7 => ?_)
          refine z_astore (lv' := [(4, .ref q7), (0, .ref ab), (1, .int x2), (2, .int x3), (3, .ref ao)]) C dL_request_21 (by decide) rfl ?_
          refine z_iconst (v := 3) C dL_request_23 (by decide) ?_
          have hu := Option.some.inj hF
          subst hu
          exact z_lret1 C dL_request_24 rfl rfl
        · have hF := zelse hF c6
          exact absurd hF (fun q => nomatch q)
  · refine z_xcallV_R (n := 2) (As := [.int x2, .int x3]) (ws' := (zwX7 cI cJ cZ ab a5 a3 a6 a1 a0 B P M r1.2.1 r1.2.2.1 r1.2.2.2.1 r1.2.2.2.2 ++ zwO cJ ao O)) C XE (c_X7_request l hl D cI cJ cZ ab a5 a3 a6 a1 a0 B P M T K U L x2 x3 (.inr r1) er1) gL_request_X7_request rfl (by decide +kernel) ⟨Nat.le_of_ble_eq_true rfl, Nat.le_of_ble_eq_true rfl⟩ ⟨Nat.zero_le _, Nat.zero_le _⟩ 0 rfl rfl [] (zwO cJ ao O) rfl rfl rfl rfl (Nat.le_of_ble_eq_true rfl) dL_request_5 ?_
    refine z_i2l C dL_request_8 ?_
    obtain ⟨g8, hF⟩ := zix_some hF
    refine z_last (ws' := (zwX7 cI cJ cZ ab a5 a3 a6 a1 a0 B P M r1.2.1 r1.2.2.1 r1.2.2.2.1 r1.2.2.2.2 ++ zwO cJ ao (vp_updL O (0 : Int32).toNatClampNeg ((r1.1).toInt64)))) C g8 30 rfl rfl dL_request_9 (zr_O cI cJ cZ ab a5 a3 a6 a1 a0 B P M r1.2.1 r1.2.2.1 r1.2.2.2.1 r1.2.2.2.2 ao O ((0 : Int32).toNatClampNeg) ((r1.1).toInt64)) ?_
    refine z_goto (tgt := 25) C dL_request_10 (by decide) ?_
    refine z_iconst (v := 0) C dL_request_25 (by decide) ?_
    have hu := Option.some.inj hF
    subst hu
    refine z_widen (k := 1) (n := 6) (Nat.zero_le _) (Nat.zero_le _) ?_
    exact z_lret1 C dL_request_26 rfl rfl
theorem kL_whyDenied_19 : Cond.classLink RL 19 "java/lang/IndexOutOfBoundsException" ∈ wsL_whyDenied := by decide +kernel
theorem kL_whyDenied_21 : Cond.classLink RL 21 "java/lang/IllegalArgumentException" ∈ wsL_whyDenied := by decide +kernel
set_option maxHeartbeats 4000000 in
set_option maxRecDepth 100000 in
theorem c_L_whyDenied (l : Launch) (hl : l.stackTraces = false) (D : va_G) (cI cJ cZ : ClassId) (ab : Nat) (a5 : Nat → Nat) (a3 : Nat → Nat) (a6 : Nat → Nat) (a1 : Nat → Nat) (a0 : Nat → Nat) (ao : Nat) (B : SS) (P : SS) (M : SS) (T : SS) (K : SS) (U : SS) (L : SL) (O : SL) (x2 : Int32) (x3 : Int32) (u : Int32 × SL) (hF : f_L_whyDenied P M T O x2 x3 = some u) : zL l yL_whyDenied wsL_whyDenied 8 167 D (zTy cI cJ cZ) [.ref ab, .int x2, .int x3, .ref ao] (zwX7 cI cJ cZ ab a5 a3 a6 a1 a0 B P M T K U L ++ zwO cJ ao O) (some (.int u.1)) (zwX7 cI cJ cZ ab a5 a3 a6 a1 a0 B P M T K U L ++ zwO cJ ao u.2) := by
  refine z_lbody (cc := cL_whyDenied) (maxL := 5) (rty := (some .int)) (hh := [(0, 10, 13, 19), (0, 10, 17, 21)]) (own := RL) (lv := [(0, .ref ab), (1, .int x2), (2, .int x3), (3, .ref ao)]) (by decide +kernel) rfl rfl (Nat.le_of_ble_eq_true rfl) rfl (fun p e s m args below meth c A C XE XN XT => ?_)
  refine z_aload_n C dL_whyDenied_0 rfl 3 rfl ?_
  refine z_iconst (v := 0) C dL_whyDenied_1 (by decide) ?_
  refine z_aload_n C dL_whyDenied_2 rfl 0 rfl ?_
  refine z_iload_n C dL_whyDenied_3 rfl 1 rfl ?_
  refine z_iload_n C dL_whyDenied_4 rfl 2 rfl ?_
  rcases zca_some hF with ⟨Er1, er1, hF⟩ | ⟨r1, er1, hF⟩
  · by_cases c2 : Er1 = "java/lang/IndexOutOfBoundsException"
    · have hF := zif hF c2
      subst c2
      refine z_lcatchV (n := 2) (As := [.int x2, .int x3]) (name := "java/lang/IndexOutOfBoundsException") (pre9 := []) (x9 := ⟨0, 10, 13, 19⟩) (suf9 := [⟨0, 10, 17, 21⟩]) C XE (c_X7_whyDenied l hl D cI cJ cZ ab a5 a3 a6 a1 a0 B P M T K U L x2 x3 (.inl "java/lang/IndexOutOfBoundsException") er1) gL_whyDenied_X7_whyDenied rfl (by decide +kernel) ⟨Nat.le_of_ble_eq_true rfl, Nat.le_of_ble_eq_true rfl⟩ ⟨Nat.le_refl 1, Nat.le_refl 6⟩ 0 rfl rfl [] (zwO cJ ao O) rfl rfl rfl (Nat.le_of_ble_eq_true rfl) dL_whyDenied_5 XT (fun z hz => absurd hz List.not_mem_nil) (by decide) (by decide) kL_whyDenied_19 XE.2.2.1.1.2.2 (fun q3 => ?_)
      refine z_astore (lv' := [(4, .ref q3), (0, .ref ab), (1, .int x2), (2, .int x3), (3, .ref ao)]) C dL_whyDenied_13 (by decide) rfl ?_
      refine z_iconst (v := 1) C dL_whyDenied_15 (by decide) ?_
      have hu := Option.some.inj hF
      subst hu
      exact z_lret1 C dL_whyDenied_16 rfl rfl
    · have hF := zelse hF c2
      by_cases c4 : Er1 = "java/lang/IllegalArgumentException"
      · have hF := zif hF c4
        subst c4
        refine z_lcatchV (n := 2) (As := [.int x2, .int x3]) (name := "java/lang/IllegalArgumentException") (pre9 := [⟨0, 10, 13, 19⟩]) (x9 := ⟨0, 10, 17, 21⟩) (suf9 := []) C XE (c_X7_whyDenied l hl D cI cJ cZ ab a5 a3 a6 a1 a0 B P M T K U L x2 x3 (.inl "java/lang/IllegalArgumentException") er1) gL_whyDenied_X7_whyDenied rfl (by decide +kernel) ⟨Nat.le_of_ble_eq_true rfl, Nat.le_of_ble_eq_true rfl⟩ ⟨Nat.le_refl 1, Nat.le_refl 6⟩ 0 rfl rfl [] (zwO cJ ao O) rfl rfl rfl (Nat.le_of_ble_eq_true rfl) dL_whyDenied_5 XT (List.forall_mem_cons.mpr ⟨Or.inr ⟨by decide, "java/lang/IndexOutOfBoundsException", C.2.2.2.2.1 _ kL_whyDenied_19, XN.1⟩, (fun _ h => absurd h List.not_mem_nil)⟩) (by decide) (by decide) kL_whyDenied_21 XE.2.2.1.1.2.1 (fun q5 => ?_)
        refine z_astore (lv' := [(4, .ref q5), (0, .ref ab), (1, .int x2), (2, .int x3), (3, .ref ao)]) C dL_whyDenied_17 (by decide) rfl ?_
        refine z_iconst (v := 2) C dL_whyDenied_19 (by decide) ?_
        have hu := Option.some.inj hF
        subst hu
        exact z_lret1 C dL_whyDenied_20 rfl rfl
      · have hF := zelse hF c4
        exact absurd hF (fun q => nomatch q)
  · refine z_xcallV_R (n := 2) (As := [.int x2, .int x3]) (ws' := (zwX7 cI cJ cZ ab a5 a3 a6 a1 a0 B P M T K U L ++ zwO cJ ao O)) C XE (c_X7_whyDenied l hl D cI cJ cZ ab a5 a3 a6 a1 a0 B P M T K U L x2 x3 (.inr r1) er1) gL_whyDenied_X7_whyDenied rfl (by decide +kernel) ⟨Nat.le_of_ble_eq_true rfl, Nat.le_of_ble_eq_true rfl⟩ ⟨Nat.zero_le _, Nat.zero_le _⟩ 0 rfl rfl [] (zwO cJ ao O) rfl rfl rfl rfl (Nat.le_of_ble_eq_true rfl) dL_whyDenied_5 ?_
    refine z_i2l C dL_whyDenied_8 ?_
    obtain ⟨g6, hF⟩ := zix_some hF
    refine z_last (ws' := (zwX7 cI cJ cZ ab a5 a3 a6 a1 a0 B P M T K U L ++ zwO cJ ao (vp_updL O (0 : Int32).toNatClampNeg ((r1).toInt64)))) C g6 30 rfl rfl dL_whyDenied_9 (zr_O cI cJ cZ ab a5 a3 a6 a1 a0 B P M T K U L ao O ((0 : Int32).toNatClampNeg) ((r1).toInt64)) ?_
    refine z_goto (tgt := 21) C dL_whyDenied_10 (by decide) ?_
    refine z_iconst (v := 0) C dL_whyDenied_21 (by decide) ?_
    have hu := Option.some.inj hF
    subst hu
    refine z_widen (k := 1) (n := 6) (Nat.zero_le _) (Nat.zero_le _) ?_
    exact z_lret1 C dL_whyDenied_22 rfl rfl
theorem kL_renewCredential_19 : Cond.classLink RL 19 "java/lang/IndexOutOfBoundsException" ∈ wsL_renewCredential := by decide +kernel
theorem kL_renewCredential_21 : Cond.classLink RL 21 "java/lang/IllegalArgumentException" ∈ wsL_renewCredential := by decide +kernel
theorem kL_renewCredential_13 : Cond.classLink RL 13 "java/lang/IllegalStateException" ∈ wsL_renewCredential := by decide +kernel
set_option maxHeartbeats 4000000 in
set_option maxRecDepth 100000 in
theorem c_L_renewCredential (l : Launch) (hl : l.stackTraces = false) (D : va_G) (cI cJ cZ : ClassId) (ab : Nat) (a5 : Nat → Nat) (a3 : Nat → Nat) (a6 : Nat → Nat) (a1 : Nat → Nat) (a0 : Nat → Nat) (ao : Nat) (B : SS) (P : SS) (M : SS) (T : SS) (K : SS) (U : SS) (L : SL) (O : SL) (x2 : Int32) (x3 : Int32) (u : Int32 × SS × SS × SL × SL) (hF : f_L_renewCredential B K U L O x2 x3 = some u) : zL l yL_renewCredential wsL_renewCredential 8 137 D (zTy cI cJ cZ) [.ref ab, .int x2, .int x3, .ref ao] (zwX7 cI cJ cZ ab a5 a3 a6 a1 a0 B P M T K U L ++ zwO cJ ao O) (some (.int u.1)) (zwX7 cI cJ cZ ab a5 a3 a6 a1 a0 B P M T u.2.1 u.2.2.1 u.2.2.2.1 ++ zwO cJ ao u.2.2.2.2) := by
  refine z_lbody (cc := cL_renewCredential) (maxL := 5) (rty := (some .int)) (hh := [(0, 10, 13, 19), (0, 10, 17, 21), (0, 10, 21, 13)]) (own := RL) (lv := [(0, .ref ab), (1, .int x2), (2, .int x3), (3, .ref ao)]) (by decide +kernel) rfl rfl (Nat.le_of_ble_eq_true rfl) rfl (fun p e s m args below meth c A C XE XN XT => ?_)
  refine z_aload_n C dL_renewCredential_0 rfl 3 rfl ?_
  refine z_iconst (v := 0) C dL_renewCredential_1 (by decide) ?_
  refine z_aload_n C dL_renewCredential_2 rfl 0 rfl ?_
  refine z_iload_n C dL_renewCredential_3 rfl 1 rfl ?_
  refine z_iload_n C dL_renewCredential_4 rfl 2 rfl ?_
  rcases zca_some hF with ⟨Er1, er1, hF⟩ | ⟨r1, er1, hF⟩
  · by_cases c2 : Er1 = "java/lang/IndexOutOfBoundsException"
    · have hF := zif hF c2
      subst c2
      refine z_lcatchV (n := 2) (As := [.int x2, .int x3]) (name := "java/lang/IndexOutOfBoundsException") (pre9 := []) (x9 := ⟨0, 10, 13, 19⟩) (suf9 := [⟨0, 10, 17, 21⟩, ⟨0, 10, 21, 13⟩]) C XE (c_X7_renewCredential l hl D cI cJ cZ ab a5 a3 a6 a1 a0 B P M T K U L x2 x3 (.inl "java/lang/IndexOutOfBoundsException") er1) gL_renewCredential_X7_renewCredential rfl (by decide +kernel) ⟨Nat.le_of_ble_eq_true rfl, Nat.le_of_ble_eq_true rfl⟩ ⟨Nat.le_refl 1, Nat.le_refl 6⟩ 0 rfl rfl [] (zwO cJ ao O) rfl rfl rfl (Nat.le_of_ble_eq_true rfl) dL_renewCredential_5 XT (fun z hz => absurd hz List.not_mem_nil) (by decide) (by decide) kL_renewCredential_19 XE.2.2.1.1.2.2 (fun q3 => ?_)
      refine z_astore (lv' := [(4, .ref q3), (0, .ref ab), (1, .int x2), (2, .int x3), (3, .ref ao)]) C dL_renewCredential_13 (by decide) rfl ?_
      refine z_iconst (v := 1) C dL_renewCredential_15 (by decide) ?_
      have hu := Option.some.inj hF
      subst hu
      exact z_lret1 C dL_renewCredential_16 rfl rfl
    · have hF := zelse hF c2
      by_cases c4 : Er1 = "java/lang/IllegalArgumentException"
      · have hF := zif hF c4
        subst c4
        refine z_lcatchV (n := 2) (As := [.int x2, .int x3]) (name := "java/lang/IllegalArgumentException") (pre9 := [⟨0, 10, 13, 19⟩]) (x9 := ⟨0, 10, 17, 21⟩) (suf9 := [⟨0, 10, 21, 13⟩]) C XE (c_X7_renewCredential l hl D cI cJ cZ ab a5 a3 a6 a1 a0 B P M T K U L x2 x3 (.inl "java/lang/IllegalArgumentException") er1) gL_renewCredential_X7_renewCredential rfl (by decide +kernel) ⟨Nat.le_of_ble_eq_true rfl, Nat.le_of_ble_eq_true rfl⟩ ⟨Nat.le_refl 1, Nat.le_refl 6⟩ 0 rfl rfl [] (zwO cJ ao O) rfl rfl rfl (Nat.le_of_ble_eq_true rfl) dL_renewCredential_5 XT (List.forall_mem_cons.mpr ⟨Or.inr ⟨by decide, "java/lang/IndexOutOfBoundsException", C.2.2.2.2.1 _ kL_renewCredential_19, XN.1⟩, (fun _ h => absurd h List.not_mem_nil)⟩) (by decide) (by decide) kL_renewCredential_21 XE.2.2.1.1.2.1 (fun q5 => ?_)
        refine z_astore (lv' := [(4, .ref q5), (0, .ref ab), (1, .int x2), (2, .int x3), (3, .ref ao)]) C dL_renewCredential_17 (by decide) rfl ?_
        refine z_iconst (v := 2) C dL_renewCredential_19 (by decide) ?_
        have hu := Option.some.inj hF
        subst hu
        exact z_lret1 C dL_renewCredential_20 rfl rfl
      · have hF := zelse hF c4
        by_cases c6 : Er1 = "java/lang/IllegalStateException"
        · have hF := zif hF c6
          subst c6
          refine z_lcatchV (n := 2) (As := [.int x2, .int x3]) (name := "java/lang/IllegalStateException") (pre9 := [⟨0, 10, 13, 19⟩, ⟨0, 10, 17, 21⟩]) (x9 := ⟨0, 10, 21, 13⟩) (suf9 := []) C XE (c_X7_renewCredential l hl D cI cJ cZ ab a5 a3 a6 a1 a0 B P M T K U L x2 x3 (.inl "java/lang/IllegalStateException") er1) gL_renewCredential_X7_renewCredential rfl (by decide +kernel) ⟨Nat.le_of_ble_eq_true rfl, Nat.le_of_ble_eq_true rfl⟩ ⟨Nat.le_refl 1, Nat.le_refl 6⟩ 0 rfl rfl [] (zwO cJ ao O) rfl rfl rfl (Nat.le_of_ble_eq_true rfl) dL_renewCredential_5 XT (List.forall_mem_cons.mpr ⟨Or.inr ⟨by decide, "java/lang/IndexOutOfBoundsException", C.2.2.2.2.1 _ kL_renewCredential_19, XN.2.1⟩, (List.forall_mem_cons.mpr ⟨Or.inr ⟨by decide, "java/lang/IllegalArgumentException", C.2.2.2.2.1 _ kL_renewCredential_21, XN.2.2⟩, (fun _ h => absurd h List.not_mem_nil)⟩)⟩) (by decide) (by decide) kL_renewCredential_13 XE.2.2.1.1.1 (fun q7 => ?_)
          refine z_astore (lv' := [(4, .ref q7), (0, .ref ab), (1, .int x2), (2, .int x3), (3, .ref ao)]) C dL_renewCredential_21 (by decide) rfl ?_
          refine z_iconst (v := 3) C dL_renewCredential_23 (by decide) ?_
          have hu := Option.some.inj hF
          subst hu
          exact z_lret1 C dL_renewCredential_24 rfl rfl
        · have hF := zelse hF c6
          exact absurd hF (fun q => nomatch q)
  · refine z_xcallV_R (n := 2) (As := [.int x2, .int x3]) (ws' := (zwX7 cI cJ cZ ab a5 a3 a6 a1 a0 B P M T r1.2.1 r1.2.2.1 r1.2.2.2 ++ zwO cJ ao O)) C XE (c_X7_renewCredential l hl D cI cJ cZ ab a5 a3 a6 a1 a0 B P M T K U L x2 x3 (.inr r1) er1) gL_renewCredential_X7_renewCredential rfl (by decide +kernel) ⟨Nat.le_of_ble_eq_true rfl, Nat.le_of_ble_eq_true rfl⟩ ⟨Nat.zero_le _, Nat.zero_le _⟩ 0 rfl rfl [] (zwO cJ ao O) rfl rfl rfl rfl (Nat.le_of_ble_eq_true rfl) dL_renewCredential_5 ?_
    refine z_i2l C dL_renewCredential_8 ?_
    obtain ⟨g8, hF⟩ := zix_some hF
    refine z_last (ws' := (zwX7 cI cJ cZ ab a5 a3 a6 a1 a0 B P M T r1.2.1 r1.2.2.1 r1.2.2.2 ++ zwO cJ ao (vp_updL O (0 : Int32).toNatClampNeg ((r1.1).toInt64)))) C g8 30 rfl rfl dL_renewCredential_9 (zr_O cI cJ cZ ab a5 a3 a6 a1 a0 B P M T r1.2.1 r1.2.2.1 r1.2.2.2 ao O ((0 : Int32).toNatClampNeg) ((r1.1).toInt64)) ?_
    refine z_goto (tgt := 25) C dL_renewCredential_10 (by decide) ?_
    refine z_iconst (v := 0) C dL_renewCredential_25 (by decide) ?_
    have hu := Option.some.inj hF
    subst hu
    refine z_widen (k := 1) (n := 6) (Nat.zero_le _) (Nat.zero_le _) ?_
    exact z_lret1 C dL_renewCredential_26 rfl rfl
theorem kL_revokeBelow_21 : Cond.classLink RL 21 "java/lang/IllegalArgumentException" ∈ wsL_revokeBelow := by decide +kernel
set_option maxHeartbeats 4000000 in
set_option maxRecDepth 100000 in
theorem c_L_revokeBelow (l : Launch) (hl : l.stackTraces = false) (D : va_G) (cI cJ cZ : ClassId) (ab : Nat) (a5 : Nat → Nat) (a3 : Nat → Nat) (a6 : Nat → Nat) (a1 : Nat → Nat) (a0 : Nat → Nat) (ao : Nat) (B : SS) (P : SS) (M : SS) (T : SS) (K : SS) (U : SS) (L : SL) (O : SL) (x2 : Int32) (u : Int32 × SS × SS × SL × SL) (hF : f_L_revokeBelow B K U L O x2 = some u) : zL l yL_revokeBelow wsL_revokeBelow 8 134 D (zTy cI cJ cZ) [.ref ab, .int x2, .ref ao] (zwX7 cI cJ cZ ab a5 a3 a6 a1 a0 B P M T K U L ++ zwO cJ ao O) (some (.int u.1)) (zwX7 cI cJ cZ ab a5 a3 a6 a1 a0 B P M T u.2.1 u.2.2.1 u.2.2.2.1 ++ zwO cJ ao u.2.2.2.2) := by
  refine z_lbody (cc := cL_revokeBelow) (maxL := 4) (rty := (some .int)) (hh := [(0, 9, 12, 21)]) (own := RL) (lv := [(0, .ref ab), (1, .int x2), (2, .ref ao)]) (by decide +kernel) rfl rfl (Nat.le_of_ble_eq_true rfl) rfl (fun p e s m args below meth c A C XE XN XT => ?_)
  refine z_aload_n C dL_revokeBelow_0 rfl 2 rfl ?_
  refine z_iconst (v := 0) C dL_revokeBelow_1 (by decide) ?_
  refine z_aload_n C dL_revokeBelow_2 rfl 0 rfl ?_
  refine z_iload_n C dL_revokeBelow_3 rfl 1 rfl ?_
  rcases zca_some hF with ⟨Er1, er1, hF⟩ | ⟨r1, er1, hF⟩
  · by_cases c2 : Er1 = "java/lang/IllegalArgumentException"
    · have hF := zif hF c2
      subst c2
      refine z_lcatchV (n := 1) (As := [.int x2]) (name := "java/lang/IllegalArgumentException") (pre9 := []) (x9 := ⟨0, 9, 12, 21⟩) (suf9 := []) C XE (c_X7_revokeBelow l hl D cI cJ cZ ab a5 a3 a6 a1 a0 B P M T K U L x2 (.inl "java/lang/IllegalArgumentException") er1) gL_revokeBelow_X7_revokeBelow rfl (by decide +kernel) ⟨Nat.le_of_ble_eq_true rfl, Nat.le_of_ble_eq_true rfl⟩ ⟨Nat.le_refl 1, Nat.le_refl 6⟩ 0 rfl rfl [] (zwO cJ ao O) rfl rfl rfl (Nat.le_of_ble_eq_true rfl) dL_revokeBelow_4 XT (fun z hz => absurd hz List.not_mem_nil) (by decide) (by decide) kL_revokeBelow_21 XE.2.2.1.1.2.1 (fun q3 => ?_)
      refine z_astore_n (lv' := [(3, .ref q3), (0, .ref ab), (1, .int x2), (2, .ref ao)]) C dL_revokeBelow_12 rfl (by decide) rfl ?_
      refine z_iconst (v := 1) C dL_revokeBelow_13 (by decide) ?_
      have hu := Option.some.inj hF
      subst hu
      exact z_lret1 C dL_revokeBelow_14 rfl rfl
    · have hF := zelse hF c2
      exact absurd hF (fun q => nomatch q)
  · refine z_xcallV_R (n := 1) (As := [.int x2]) (ws' := (zwX7 cI cJ cZ ab a5 a3 a6 a1 a0 B P M T r1.2.1 r1.2.2.1 r1.2.2.2 ++ zwO cJ ao O)) C XE (c_X7_revokeBelow l hl D cI cJ cZ ab a5 a3 a6 a1 a0 B P M T K U L x2 (.inr r1) er1) gL_revokeBelow_X7_revokeBelow rfl (by decide +kernel) ⟨Nat.le_of_ble_eq_true rfl, Nat.le_of_ble_eq_true rfl⟩ ⟨Nat.zero_le _, Nat.zero_le _⟩ 0 rfl rfl [] (zwO cJ ao O) rfl rfl rfl rfl (Nat.le_of_ble_eq_true rfl) dL_revokeBelow_4 ?_
    refine z_i2l C dL_revokeBelow_7 ?_
    obtain ⟨g4, hF⟩ := zix_some hF
    refine z_last (ws' := (zwX7 cI cJ cZ ab a5 a3 a6 a1 a0 B P M T r1.2.1 r1.2.2.1 r1.2.2.2 ++ zwO cJ ao (vp_updL O (0 : Int32).toNatClampNeg ((r1.1).toInt64)))) C g4 30 rfl rfl dL_revokeBelow_8 (zr_O cI cJ cZ ab a5 a3 a6 a1 a0 B P M T r1.2.1 r1.2.2.1 r1.2.2.2 ao O ((0 : Int32).toNatClampNeg) ((r1.1).toInt64)) ?_
    refine z_goto (tgt := 15) C dL_revokeBelow_9 (by decide) ?_
    refine z_iconst (v := 0) C dL_revokeBelow_15 (by decide) ?_
    have hu := Option.some.inj hF
    subst hu
    refine z_widen (k := 1) (n := 6) (Nat.zero_le _) (Nat.zero_le _) ?_
    exact z_lret1 C dL_revokeBelow_16 rfl rfl
theorem kL_works_19 : Cond.classLink RL 19 "java/lang/IndexOutOfBoundsException" ∈ wsL_works := by decide +kernel
set_option maxHeartbeats 4000000 in
set_option maxRecDepth 100000 in
theorem c_L_works (l : Launch) (hl : l.stackTraces = false) (D : va_G) (cI cJ cZ : ClassId) (ab : Nat) (a5 : Nat → Nat) (a3 : Nat → Nat) (a6 : Nat → Nat) (a1 : Nat → Nat) (a0 : Nat → Nat) (ao : Nat) (B : SS) (P : SS) (M : SS) (T : SS) (K : SS) (U : SS) (L : SL) (O : SL) (x2 : Int32) (u : Int32 × SL) (hF : f_L_works K O x2 = some u) : zL l yL_works wsL_works 8 134 D (zTy cI cJ cZ) [.ref ab, .int x2, .ref ao] (zwX7 cI cJ cZ ab a5 a3 a6 a1 a0 B P M T K U L ++ zwO cJ ao O) (some (.int u.1)) (zwX7 cI cJ cZ ab a5 a3 a6 a1 a0 B P M T K U L ++ zwO cJ ao u.2) := by
  refine z_lbody (cc := cL_works) (maxL := 4) (rty := (some .int)) (hh := [(0, 16, 19, 19)]) (own := RL) (lv := [(0, .ref ab), (1, .int x2), (2, .ref ao)]) (by decide +kernel) rfl rfl (Nat.le_of_ble_eq_true rfl) rfl (fun p e s m args below meth c A C XE XN XT => ?_)
  refine z_aload_n C dL_works_0 rfl 2 rfl ?_
  refine z_iconst (v := 0) C dL_works_1 (by decide) ?_
  refine z_aload_n C dL_works_2 rfl 0 rfl ?_
  refine z_iload_n C dL_works_3 rfl 1 rfl ?_
  rcases zca_some hF with ⟨Er1, er1, hF⟩ | ⟨r1, er1, hF⟩
  · by_cases c2 : Er1 = "java/lang/IndexOutOfBoundsException"
    · have hF := zif hF c2
      subst c2
      refine z_lcatchV (n := 1) (As := [.int x2]) (name := "java/lang/IndexOutOfBoundsException") (pre9 := []) (x9 := ⟨0, 16, 19, 19⟩) (suf9 := []) C XE (c_X7_works l hl D cI cJ cZ ab a5 a3 a6 a1 a0 B P M T K U L x2 (.inl "java/lang/IndexOutOfBoundsException") er1) gL_works_X7_works rfl (by decide +kernel) ⟨Nat.le_of_ble_eq_true rfl, Nat.le_of_ble_eq_true rfl⟩ ⟨Nat.le_refl 1, Nat.le_refl 6⟩ 0 rfl rfl [] (zwO cJ ao O) rfl rfl rfl (Nat.le_of_ble_eq_true rfl) dL_works_4 XT (fun z hz => absurd hz List.not_mem_nil) (by decide) (by decide) kL_works_19 XE.2.2.1.1.2.2 (fun q3 => ?_)
      refine z_astore_n (lv' := [(3, .ref q3), (0, .ref ab), (1, .int x2), (2, .ref ao)]) C dL_works_19 rfl (by decide) rfl ?_
      refine z_iconst (v := 1) C dL_works_20 (by decide) ?_
      have hu := Option.some.inj hF
      subst hu
      exact z_lret1 C dL_works_21 rfl rfl
    · have hF := zelse hF c2
      exact absurd hF (fun q => nomatch q)
  · refine z_xcallV_R (n := 1) (As := [.int x2]) (ws' := (zwX7 cI cJ cZ ab a5 a3 a6 a1 a0 B P M T K U L ++ zwO cJ ao O)) C XE (c_X7_works l hl D cI cJ cZ ab a5 a3 a6 a1 a0 B P M T K U L x2 (.inr r1) er1) gL_works_X7_works rfl (by decide +kernel) ⟨Nat.le_of_ble_eq_true rfl, Nat.le_of_ble_eq_true rfl⟩ ⟨Nat.zero_le _, Nat.zero_le _⟩ 0 rfl rfl [] (zwO cJ ao O) rfl rfl rfl rfl (Nat.le_of_ble_eq_true rfl) dL_works_4 ?_
    refine z_if_eq (tgt := 14) C dL_works_7 (by decide) (fun c4 => ?_) (fun c4 => ?_)
    · have hF := zif hF c4
      refine z_lconst (v := 0) C dL_works_14 (by decide) ?_
      obtain ⟨g5, hF⟩ := zix_some hF
      refine z_last (ws' := (zwX7 cI cJ cZ ab a5 a3 a6 a1 a0 B P M T K U L ++ zwO cJ ao (vp_updL O (0 : Int32).toNatClampNeg 0))) C g5 30 rfl rfl dL_works_15 (zr_O cI cJ cZ ab a5 a3 a6 a1 a0 B P M T K U L ao O ((0 : Int32).toNatClampNeg) 0) ?_
      refine z_goto (tgt := 22) C dL_works_16 (by decide) ?_
      refine z_iconst (v := 0) C dL_works_22 (by decide) ?_
      have hu := Option.some.inj hF
      subst hu
      refine z_widen (k := 1) (n := 6) (Nat.zero_le _) (Nat.zero_le _) ?_
      exact z_lret1 C dL_works_23 rfl rfl
    · have hF := zelse hF c4
      refine z_lconst (v := 1) C dL_works_10 (by decide) ?_
      refine z_goto (tgt := 15) C dL_works_11 (by decide) ?_
      obtain ⟨g6, hF⟩ := zix_some hF
      refine z_last (ws' := (zwX7 cI cJ cZ ab a5 a3 a6 a1 a0 B P M T K U L ++ zwO cJ ao (vp_updL O (0 : Int32).toNatClampNeg 1))) C g6 30 rfl rfl dL_works_15 (zr_O cI cJ cZ ab a5 a3 a6 a1 a0 B P M T K U L ao O ((0 : Int32).toNatClampNeg) 1) ?_
      refine z_goto (tgt := 22) C dL_works_16 (by decide) ?_
      refine z_iconst (v := 0) C dL_works_22 (by decide) ?_
      have hu := Option.some.inj hF
      subst hu
      refine z_widen (k := 1) (n := 6) (Nat.zero_le _) (Nat.zero_le _) ?_
      exact z_lret1 C dL_works_23 rfl rfl
theorem kL_endOfCredential_19 : Cond.classLink RL 19 "java/lang/IndexOutOfBoundsException" ∈ wsL_endOfCredential := by decide +kernel
set_option maxHeartbeats 4000000 in
set_option maxRecDepth 100000 in
theorem c_L_endOfCredential (l : Launch) (hl : l.stackTraces = false) (D : va_G) (cI cJ cZ : ClassId) (ab : Nat) (a5 : Nat → Nat) (a3 : Nat → Nat) (a6 : Nat → Nat) (a1 : Nat → Nat) (a0 : Nat → Nat) (ao : Nat) (B : SS) (P : SS) (M : SS) (T : SS) (K : SS) (U : SS) (L : SL) (O : SL) (x2 : Int32) (u : Int32 × SL) (hF : f_L_endOfCredential K O x2 = some u) : zL l yL_endOfCredential wsL_endOfCredential 8 134 D (zTy cI cJ cZ) [.ref ab, .int x2, .ref ao] (zwX7 cI cJ cZ ab a5 a3 a6 a1 a0 B P M T K U L ++ zwO cJ ao O) (some (.int u.1)) (zwX7 cI cJ cZ ab a5 a3 a6 a1 a0 B P M T K U L ++ zwO cJ ao u.2) := by
  refine z_lbody (cc := cL_endOfCredential) (maxL := 4) (rty := (some .int)) (hh := [(0, 9, 12, 19)]) (own := RL) (lv := [(0, .ref ab), (1, .int x2), (2, .ref ao)]) (by decide +kernel) rfl rfl (Nat.le_of_ble_eq_true rfl) rfl (fun p e s m args below meth c A C XE XN XT => ?_)
  refine z_aload_n C dL_endOfCredential_0 rfl 2 rfl ?_
  refine z_iconst (v := 0) C dL_endOfCredential_1 (by decide) ?_
  refine z_aload_n C dL_endOfCredential_2 rfl 0 rfl ?_
  refine z_iload_n C dL_endOfCredential_3 rfl 1 rfl ?_
  rcases zca_some hF with ⟨Er1, er1, hF⟩ | ⟨r1, er1, hF⟩
  · by_cases c2 : Er1 = "java/lang/IndexOutOfBoundsException"
    · have hF := zif hF c2
      subst c2
      refine z_lcatchV (n := 1) (As := [.int x2]) (name := "java/lang/IndexOutOfBoundsException") (pre9 := []) (x9 := ⟨0, 9, 12, 19⟩) (suf9 := []) C XE (c_X7_endOfCredential l hl D cI cJ cZ ab a5 a3 a6 a1 a0 B P M T K U L x2 (.inl "java/lang/IndexOutOfBoundsException") er1) gL_endOfCredential_X7_endOfCredential rfl (by decide +kernel) ⟨Nat.le_of_ble_eq_true rfl, Nat.le_of_ble_eq_true rfl⟩ ⟨Nat.le_refl 1, Nat.le_refl 6⟩ 0 rfl rfl [] (zwO cJ ao O) rfl rfl rfl (Nat.le_of_ble_eq_true rfl) dL_endOfCredential_4 XT (fun z hz => absurd hz List.not_mem_nil) (by decide) (by decide) kL_endOfCredential_19 XE.2.2.1.1.2.2 (fun q3 => ?_)
      refine z_astore_n (lv' := [(3, .ref q3), (0, .ref ab), (1, .int x2), (2, .ref ao)]) C dL_endOfCredential_12 rfl (by decide) rfl ?_
      refine z_iconst (v := 1) C dL_endOfCredential_13 (by decide) ?_
      have hu := Option.some.inj hF
      subst hu
      exact z_lret1 C dL_endOfCredential_14 rfl rfl
    · have hF := zelse hF c2
      exact absurd hF (fun q => nomatch q)
  · refine z_xcallV_R (n := 1) (As := [.int x2]) (ws' := (zwX7 cI cJ cZ ab a5 a3 a6 a1 a0 B P M T K U L ++ zwO cJ ao O)) C XE (c_X7_endOfCredential l hl D cI cJ cZ ab a5 a3 a6 a1 a0 B P M T K U L x2 (.inr r1) er1) gL_endOfCredential_X7_endOfCredential rfl (by decide +kernel) ⟨Nat.le_of_ble_eq_true rfl, Nat.le_of_ble_eq_true rfl⟩ ⟨Nat.zero_le _, Nat.zero_le _⟩ 0 rfl rfl [] (zwO cJ ao O) rfl rfl rfl rfl (Nat.le_of_ble_eq_true rfl) dL_endOfCredential_4 ?_
    refine z_i2l C dL_endOfCredential_7 ?_
    obtain ⟨g4, hF⟩ := zix_some hF
    refine z_last (ws' := (zwX7 cI cJ cZ ab a5 a3 a6 a1 a0 B P M T K U L ++ zwO cJ ao (vp_updL O (0 : Int32).toNatClampNeg ((r1).toInt64)))) C g4 30 rfl rfl dL_endOfCredential_8 (zr_O cI cJ cZ ab a5 a3 a6 a1 a0 B P M T K U L ao O ((0 : Int32).toNatClampNeg) ((r1).toInt64)) ?_
    refine z_goto (tgt := 15) C dL_endOfCredential_9 (by decide) ?_
    refine z_iconst (v := 0) C dL_endOfCredential_15 (by decide) ?_
    have hu := Option.some.inj hF
    subst hu
    refine z_widen (k := 1) (n := 6) (Nat.zero_le _) (Nat.zero_le _) ?_
    exact z_lret1 C dL_endOfCredential_16 rfl rfl
theorem kL_credentialsOf_19 : Cond.classLink RL 19 "java/lang/IndexOutOfBoundsException" ∈ wsL_credentialsOf := by decide +kernel
set_option maxHeartbeats 4000000 in
set_option maxRecDepth 100000 in
theorem c_L_credentialsOf (l : Launch) (hl : l.stackTraces = false) (D : va_G) (cI cJ cZ : ClassId) (ab : Nat) (a5 : Nat → Nat) (a3 : Nat → Nat) (a6 : Nat → Nat) (a1 : Nat → Nat) (a0 : Nat → Nat) (ao : Nat) (B : SS) (P : SS) (M : SS) (T : SS) (K : SS) (U : SS) (L : SL) (O : SL) (x2 : Int32) (u : Int32 × SL) (hF : f_L_credentialsOf T K O x2 = some u) : zL l yL_credentialsOf wsL_credentialsOf 8 134 D (zTy cI cJ cZ) [.ref ab, .int x2, .ref ao] (zwX7 cI cJ cZ ab a5 a3 a6 a1 a0 B P M T K U L ++ zwO cJ ao O) (some (.int u.1)) (zwX7 cI cJ cZ ab a5 a3 a6 a1 a0 B P M T K U L ++ zwO cJ ao u.2) := by
  refine z_lbody (cc := cL_credentialsOf) (maxL := 4) (rty := (some .int)) (hh := [(0, 9, 12, 19)]) (own := RL) (lv := [(0, .ref ab), (1, .int x2), (2, .ref ao)]) (by decide +kernel) rfl rfl (Nat.le_of_ble_eq_true rfl) rfl (fun p e s m args below meth c A C XE XN XT => ?_)
  refine z_aload_n C dL_credentialsOf_0 rfl 2 rfl ?_
  refine z_iconst (v := 0) C dL_credentialsOf_1 (by decide) ?_
  refine z_aload_n C dL_credentialsOf_2 rfl 0 rfl ?_
  refine z_iload_n C dL_credentialsOf_3 rfl 1 rfl ?_
  rcases zca_some hF with ⟨Er1, er1, hF⟩ | ⟨r1, er1, hF⟩
  · by_cases c2 : Er1 = "java/lang/IndexOutOfBoundsException"
    · have hF := zif hF c2
      subst c2
      refine z_lcatchV (n := 1) (As := [.int x2]) (name := "java/lang/IndexOutOfBoundsException") (pre9 := []) (x9 := ⟨0, 9, 12, 19⟩) (suf9 := []) C XE (c_X7_credentialsOf l hl D cI cJ cZ ab a5 a3 a6 a1 a0 B P M T K U L x2 (.inl "java/lang/IndexOutOfBoundsException") er1) gL_credentialsOf_X7_credentialsOf rfl (by decide +kernel) ⟨Nat.le_of_ble_eq_true rfl, Nat.le_of_ble_eq_true rfl⟩ ⟨Nat.le_refl 1, Nat.le_refl 6⟩ 0 rfl rfl [] (zwO cJ ao O) rfl rfl rfl (Nat.le_of_ble_eq_true rfl) dL_credentialsOf_4 XT (fun z hz => absurd hz List.not_mem_nil) (by decide) (by decide) kL_credentialsOf_19 XE.2.2.1.1.2.2 (fun q3 => ?_)
      refine z_astore_n (lv' := [(3, .ref q3), (0, .ref ab), (1, .int x2), (2, .ref ao)]) C dL_credentialsOf_12 rfl (by decide) rfl ?_
      refine z_iconst (v := 1) C dL_credentialsOf_13 (by decide) ?_
      have hu := Option.some.inj hF
      subst hu
      exact z_lret1 C dL_credentialsOf_14 rfl rfl
    · have hF := zelse hF c2
      exact absurd hF (fun q => nomatch q)
  · refine z_xcallV_R (n := 1) (As := [.int x2]) (ws' := (zwX7 cI cJ cZ ab a5 a3 a6 a1 a0 B P M T K U L ++ zwO cJ ao O)) C XE (c_X7_credentialsOf l hl D cI cJ cZ ab a5 a3 a6 a1 a0 B P M T K U L x2 (.inr r1) er1) gL_credentialsOf_X7_credentialsOf rfl (by decide +kernel) ⟨Nat.le_of_ble_eq_true rfl, Nat.le_of_ble_eq_true rfl⟩ ⟨Nat.zero_le _, Nat.zero_le _⟩ 0 rfl rfl [] (zwO cJ ao O) rfl rfl rfl rfl (Nat.le_of_ble_eq_true rfl) dL_credentialsOf_4 ?_
    refine z_i2l C dL_credentialsOf_7 ?_
    obtain ⟨g4, hF⟩ := zix_some hF
    refine z_last (ws' := (zwX7 cI cJ cZ ab a5 a3 a6 a1 a0 B P M T K U L ++ zwO cJ ao (vp_updL O (0 : Int32).toNatClampNeg ((r1).toInt64)))) C g4 30 rfl rfl dL_credentialsOf_8 (zr_O cI cJ cZ ab a5 a3 a6 a1 a0 B P M T K U L ao O ((0 : Int32).toNatClampNeg) ((r1).toInt64)) ?_
    refine z_goto (tgt := 15) C dL_credentialsOf_9 (by decide) ?_
    refine z_iconst (v := 0) C dL_credentialsOf_15 (by decide) ?_
    have hu := Option.some.inj hF
    subst hu
    refine z_widen (k := 1) (n := 6) (Nat.zero_le _) (Nat.zero_le _) ?_
    exact z_lret1 C dL_credentialsOf_16 rfl rfl
theorem kL_pass_21 : Cond.classLink RL 21 "java/lang/IllegalArgumentException" ∈ wsL_pass := by decide +kernel
set_option maxHeartbeats 4000000 in
set_option maxRecDepth 100000 in
theorem c_L_pass (l : Launch) (hl : l.stackTraces = false) (D : va_G) (cI cJ cZ : ClassId) (ab : Nat) (a5 : Nat → Nat) (a3 : Nat → Nat) (a6 : Nat → Nat) (a1 : Nat → Nat) (a0 : Nat → Nat) (ao : Nat) (B : SS) (P : SS) (M : SS) (T : SS) (K : SS) (U : SS) (L : SL) (O : SL) (x2 : Int32) (u : Int32 × SS × SS × SS × SS × SL × SL) (hF : f_L_pass B T K U L O x2 = some u) : zL l yL_pass wsL_pass 8 136 D (zTy cI cJ cZ) [.ref ab, .int x2, .ref ao] (zwX7 cI cJ cZ ab a5 a3 a6 a1 a0 B P M T K U L ++ zwO cJ ao O) (some (.int u.1)) (zwX7 cI cJ cZ ab a5 a3 a6 a1 a0 u.2.1 P M u.2.2.1 u.2.2.2.1 u.2.2.2.2.1 u.2.2.2.2.2.1 ++ zwO cJ ao u.2.2.2.2.2.2) := by
  refine z_lbody (cc := cL_pass) (maxL := 4) (rty := (some .int)) (hh := [(0, 9, 12, 21)]) (own := RL) (lv := [(0, .ref ab), (1, .int x2), (2, .ref ao)]) (by decide +kernel) rfl rfl (Nat.le_of_ble_eq_true rfl) rfl (fun p e s m args below meth c A C XE XN XT => ?_)
  refine z_aload_n C dL_pass_0 rfl 2 rfl ?_
  refine z_iconst (v := 0) C dL_pass_1 (by decide) ?_
  refine z_aload_n C dL_pass_2 rfl 0 rfl ?_
  refine z_iload_n C dL_pass_3 rfl 1 rfl ?_
  rcases zca_some hF with ⟨Er1, er1, hF⟩ | ⟨r1, er1, hF⟩
  · by_cases c2 : Er1 = "java/lang/IllegalArgumentException"
    · have hF := zif hF c2
      subst c2
      refine z_lcatchV (n := 1) (As := [.int x2]) (name := "java/lang/IllegalArgumentException") (pre9 := []) (x9 := ⟨0, 9, 12, 21⟩) (suf9 := []) C XE (c_X7_pass l hl D cI cJ cZ ab a5 a3 a6 a1 a0 B P M T K U L x2 (.inl "java/lang/IllegalArgumentException") er1) gL_pass_X7_pass rfl (by decide +kernel) ⟨Nat.le_of_ble_eq_true rfl, Nat.le_of_ble_eq_true rfl⟩ ⟨Nat.le_refl 1, Nat.le_refl 6⟩ 0 rfl rfl [] (zwO cJ ao O) rfl rfl rfl (Nat.le_of_ble_eq_true rfl) dL_pass_4 XT (fun z hz => absurd hz List.not_mem_nil) (by decide) (by decide) kL_pass_21 XE.2.2.1.1.2.1 (fun q3 => ?_)
      refine z_astore_n (lv' := [(3, .ref q3), (0, .ref ab), (1, .int x2), (2, .ref ao)]) C dL_pass_12 rfl (by decide) rfl ?_
      refine z_iconst (v := 1) C dL_pass_13 (by decide) ?_
      have hu := Option.some.inj hF
      subst hu
      exact z_lret1 C dL_pass_14 rfl rfl
    · have hF := zelse hF c2
      exact absurd hF (fun q => nomatch q)
  · refine z_xcallV_R (n := 1) (As := [.int x2]) (ws' := (zwX7 cI cJ cZ ab a5 a3 a6 a1 a0 r1.2.1 P M r1.2.2.1 r1.2.2.2.1 r1.2.2.2.2.1 r1.2.2.2.2.2 ++ zwO cJ ao O)) C XE (c_X7_pass l hl D cI cJ cZ ab a5 a3 a6 a1 a0 B P M T K U L x2 (.inr r1) er1) gL_pass_X7_pass rfl (by decide +kernel) ⟨Nat.le_of_ble_eq_true rfl, Nat.le_of_ble_eq_true rfl⟩ ⟨Nat.zero_le _, Nat.zero_le _⟩ 0 rfl rfl [] (zwO cJ ao O) rfl rfl rfl rfl (Nat.le_of_ble_eq_true rfl) dL_pass_4 ?_
    refine z_i2l C dL_pass_7 ?_
    obtain ⟨g4, hF⟩ := zix_some hF
    refine z_last (ws' := (zwX7 cI cJ cZ ab a5 a3 a6 a1 a0 r1.2.1 P M r1.2.2.1 r1.2.2.2.1 r1.2.2.2.2.1 r1.2.2.2.2.2 ++ zwO cJ ao (vp_updL O (0 : Int32).toNatClampNeg ((r1.1).toInt64)))) C g4 30 rfl rfl dL_pass_8 (zr_O cI cJ cZ ab a5 a3 a6 a1 a0 r1.2.1 P M r1.2.2.1 r1.2.2.2.1 r1.2.2.2.2.1 r1.2.2.2.2.2 ao O ((0 : Int32).toNatClampNeg) ((r1.1).toInt64)) ?_
    refine z_goto (tgt := 15) C dL_pass_9 (by decide) ?_
    refine z_iconst (v := 0) C dL_pass_15 (by decide) ?_
    have hu := Option.some.inj hF
    subst hu
    refine z_widen (k := 1) (n := 6) (Nat.zero_le _) (Nat.zero_le _) ?_
    exact z_lret1 C dL_pass_16 rfl rfl
theorem kL_kindOf_19 : Cond.classLink RL 19 "java/lang/IndexOutOfBoundsException" ∈ wsL_kindOf := by decide +kernel
set_option maxHeartbeats 4000000 in
set_option maxRecDepth 100000 in
theorem c_L_kindOf (l : Launch) (hl : l.stackTraces = false) (D : va_G) (cI cJ cZ : ClassId) (ab : Nat) (a5 : Nat → Nat) (a3 : Nat → Nat) (a6 : Nat → Nat) (a1 : Nat → Nat) (a0 : Nat → Nat) (ao : Nat) (B : SS) (P : SS) (M : SS) (T : SS) (K : SS) (U : SS) (L : SL) (O : SL) (x2 : Int32) (u : Int32 × SL) (hF : f_L_kindOf U O x2 = some u) : zL l yL_kindOf wsL_kindOf 8 134 D (zTy cI cJ cZ) [.ref ab, .int x2, .ref ao] (zwX7 cI cJ cZ ab a5 a3 a6 a1 a0 B P M T K U L ++ zwO cJ ao O) (some (.int u.1)) (zwX7 cI cJ cZ ab a5 a3 a6 a1 a0 B P M T K U L ++ zwO cJ ao u.2) := by
  refine z_lbody (cc := cL_kindOf) (maxL := 4) (rty := (some .int)) (hh := [(0, 9, 12, 19)]) (own := RL) (lv := [(0, .ref ab), (1, .int x2), (2, .ref ao)]) (by decide +kernel) rfl rfl (Nat.le_of_ble_eq_true rfl) rfl (fun p e s m args below meth c A C XE XN XT => ?_)
  refine z_aload_n C dL_kindOf_0 rfl 2 rfl ?_
  refine z_iconst (v := 0) C dL_kindOf_1 (by decide) ?_
  refine z_aload_n C dL_kindOf_2 rfl 0 rfl ?_
  refine z_iload_n C dL_kindOf_3 rfl 1 rfl ?_
  rcases zca_some hF with ⟨Er1, er1, hF⟩ | ⟨r1, er1, hF⟩
  · by_cases c2 : Er1 = "java/lang/IndexOutOfBoundsException"
    · have hF := zif hF c2
      subst c2
      refine z_lcatchV (n := 1) (As := [.int x2]) (name := "java/lang/IndexOutOfBoundsException") (pre9 := []) (x9 := ⟨0, 9, 12, 19⟩) (suf9 := []) C XE (c_X7_kindOf l hl D cI cJ cZ ab a5 a3 a6 a1 a0 B P M T K U L x2 (.inl "java/lang/IndexOutOfBoundsException") er1) gL_kindOf_X7_kindOf rfl (by decide +kernel) ⟨Nat.le_of_ble_eq_true rfl, Nat.le_of_ble_eq_true rfl⟩ ⟨Nat.le_refl 1, Nat.le_refl 6⟩ 0 rfl rfl [] (zwO cJ ao O) rfl rfl rfl (Nat.le_of_ble_eq_true rfl) dL_kindOf_4 XT (fun z hz => absurd hz List.not_mem_nil) (by decide) (by decide) kL_kindOf_19 XE.2.2.1.1.2.2 (fun q3 => ?_)
      refine z_astore_n (lv' := [(3, .ref q3), (0, .ref ab), (1, .int x2), (2, .ref ao)]) C dL_kindOf_12 rfl (by decide) rfl ?_
      refine z_iconst (v := 1) C dL_kindOf_13 (by decide) ?_
      have hu := Option.some.inj hF
      subst hu
      exact z_lret1 C dL_kindOf_14 rfl rfl
    · have hF := zelse hF c2
      exact absurd hF (fun q => nomatch q)
  · refine z_xcallV_R (n := 1) (As := [.int x2]) (ws' := (zwX7 cI cJ cZ ab a5 a3 a6 a1 a0 B P M T K U L ++ zwO cJ ao O)) C XE (c_X7_kindOf l hl D cI cJ cZ ab a5 a3 a6 a1 a0 B P M T K U L x2 (.inr r1) er1) gL_kindOf_X7_kindOf rfl (by decide +kernel) ⟨Nat.le_of_ble_eq_true rfl, Nat.le_of_ble_eq_true rfl⟩ ⟨Nat.zero_le _, Nat.zero_le _⟩ 0 rfl rfl [] (zwO cJ ao O) rfl rfl rfl rfl (Nat.le_of_ble_eq_true rfl) dL_kindOf_4 ?_
    refine z_i2l C dL_kindOf_7 ?_
    obtain ⟨g4, hF⟩ := zix_some hF
    refine z_last (ws' := (zwX7 cI cJ cZ ab a5 a3 a6 a1 a0 B P M T K U L ++ zwO cJ ao (vp_updL O (0 : Int32).toNatClampNeg ((r1).toInt64)))) C g4 30 rfl rfl dL_kindOf_8 (zr_O cI cJ cZ ab a5 a3 a6 a1 a0 B P M T K U L ao O ((0 : Int32).toNatClampNeg) ((r1).toInt64)) ?_
    refine z_goto (tgt := 15) C dL_kindOf_9 (by decide) ?_
    refine z_iconst (v := 0) C dL_kindOf_15 (by decide) ?_
    have hu := Option.some.inj hF
    subst hu
    refine z_widen (k := 1) (n := 6) (Nat.zero_le _) (Nat.zero_le _) ?_
    exact z_lret1 C dL_kindOf_16 rfl rfl
theorem kL_subjectOf_19 : Cond.classLink RL 19 "java/lang/IndexOutOfBoundsException" ∈ wsL_subjectOf := by decide +kernel
set_option maxHeartbeats 4000000 in
set_option maxRecDepth 100000 in
theorem c_L_subjectOf (l : Launch) (hl : l.stackTraces = false) (D : va_G) (cI cJ cZ : ClassId) (ab : Nat) (a5 : Nat → Nat) (a3 : Nat → Nat) (a6 : Nat → Nat) (a1 : Nat → Nat) (a0 : Nat → Nat) (ao : Nat) (B : SS) (P : SS) (M : SS) (T : SS) (K : SS) (U : SS) (L : SL) (O : SL) (x2 : Int32) (u : Int32 × SL) (hF : f_L_subjectOf U O x2 = some u) : zL l yL_subjectOf wsL_subjectOf 8 134 D (zTy cI cJ cZ) [.ref ab, .int x2, .ref ao] (zwX7 cI cJ cZ ab a5 a3 a6 a1 a0 B P M T K U L ++ zwO cJ ao O) (some (.int u.1)) (zwX7 cI cJ cZ ab a5 a3 a6 a1 a0 B P M T K U L ++ zwO cJ ao u.2) := by
  refine z_lbody (cc := cL_subjectOf) (maxL := 4) (rty := (some .int)) (hh := [(0, 9, 12, 19)]) (own := RL) (lv := [(0, .ref ab), (1, .int x2), (2, .ref ao)]) (by decide +kernel) rfl rfl (Nat.le_of_ble_eq_true rfl) rfl (fun p e s m args below meth c A C XE XN XT => ?_)
  refine z_aload_n C dL_subjectOf_0 rfl 2 rfl ?_
  refine z_iconst (v := 0) C dL_subjectOf_1 (by decide) ?_
  refine z_aload_n C dL_subjectOf_2 rfl 0 rfl ?_
  refine z_iload_n C dL_subjectOf_3 rfl 1 rfl ?_
  rcases zca_some hF with ⟨Er1, er1, hF⟩ | ⟨r1, er1, hF⟩
  · by_cases c2 : Er1 = "java/lang/IndexOutOfBoundsException"
    · have hF := zif hF c2
      subst c2
      refine z_lcatchV (n := 1) (As := [.int x2]) (name := "java/lang/IndexOutOfBoundsException") (pre9 := []) (x9 := ⟨0, 9, 12, 19⟩) (suf9 := []) C XE (c_X7_subjectOf l hl D cI cJ cZ ab a5 a3 a6 a1 a0 B P M T K U L x2 (.inl "java/lang/IndexOutOfBoundsException") er1) gL_subjectOf_X7_subjectOf rfl (by decide +kernel) ⟨Nat.le_of_ble_eq_true rfl, Nat.le_of_ble_eq_true rfl⟩ ⟨Nat.le_refl 1, Nat.le_refl 6⟩ 0 rfl rfl [] (zwO cJ ao O) rfl rfl rfl (Nat.le_of_ble_eq_true rfl) dL_subjectOf_4 XT (fun z hz => absurd hz List.not_mem_nil) (by decide) (by decide) kL_subjectOf_19 XE.2.2.1.1.2.2 (fun q3 => ?_)
      refine z_astore_n (lv' := [(3, .ref q3), (0, .ref ab), (1, .int x2), (2, .ref ao)]) C dL_subjectOf_12 rfl (by decide) rfl ?_
      refine z_iconst (v := 1) C dL_subjectOf_13 (by decide) ?_
      have hu := Option.some.inj hF
      subst hu
      exact z_lret1 C dL_subjectOf_14 rfl rfl
    · have hF := zelse hF c2
      exact absurd hF (fun q => nomatch q)
  · refine z_xcallV_R (n := 1) (As := [.int x2]) (ws' := (zwX7 cI cJ cZ ab a5 a3 a6 a1 a0 B P M T K U L ++ zwO cJ ao O)) C XE (c_X7_subjectOf l hl D cI cJ cZ ab a5 a3 a6 a1 a0 B P M T K U L x2 (.inr r1) er1) gL_subjectOf_X7_subjectOf rfl (by decide +kernel) ⟨Nat.le_of_ble_eq_true rfl, Nat.le_of_ble_eq_true rfl⟩ ⟨Nat.zero_le _, Nat.zero_le _⟩ 0 rfl rfl [] (zwO cJ ao O) rfl rfl rfl rfl (Nat.le_of_ble_eq_true rfl) dL_subjectOf_4 ?_
    refine z_i2l C dL_subjectOf_7 ?_
    obtain ⟨g4, hF⟩ := zix_some hF
    refine z_last (ws' := (zwX7 cI cJ cZ ab a5 a3 a6 a1 a0 B P M T K U L ++ zwO cJ ao (vp_updL O (0 : Int32).toNatClampNeg ((r1).toInt64)))) C g4 30 rfl rfl dL_subjectOf_8 (zr_O cI cJ cZ ab a5 a3 a6 a1 a0 B P M T K U L ao O ((0 : Int32).toNatClampNeg) ((r1).toInt64)) ?_
    refine z_goto (tgt := 15) C dL_subjectOf_9 (by decide) ?_
    refine z_iconst (v := 0) C dL_subjectOf_15 (by decide) ?_
    have hu := Option.some.inj hF
    subst hu
    refine z_widen (k := 1) (n := 6) (Nat.zero_le _) (Nat.zero_le _) ?_
    exact z_lret1 C dL_subjectOf_16 rfl rfl
theorem kL_detailOf_19 : Cond.classLink RL 19 "java/lang/IndexOutOfBoundsException" ∈ wsL_detailOf := by decide +kernel
set_option maxHeartbeats 4000000 in
set_option maxRecDepth 100000 in
theorem c_L_detailOf (l : Launch) (hl : l.stackTraces = false) (D : va_G) (cI cJ cZ : ClassId) (ab : Nat) (a5 : Nat → Nat) (a3 : Nat → Nat) (a6 : Nat → Nat) (a1 : Nat → Nat) (a0 : Nat → Nat) (ao : Nat) (B : SS) (P : SS) (M : SS) (T : SS) (K : SS) (U : SS) (L : SL) (O : SL) (x2 : Int32) (u : Int32 × SL) (hF : f_L_detailOf U O x2 = some u) : zL l yL_detailOf wsL_detailOf 8 134 D (zTy cI cJ cZ) [.ref ab, .int x2, .ref ao] (zwX7 cI cJ cZ ab a5 a3 a6 a1 a0 B P M T K U L ++ zwO cJ ao O) (some (.int u.1)) (zwX7 cI cJ cZ ab a5 a3 a6 a1 a0 B P M T K U L ++ zwO cJ ao u.2) := by
  refine z_lbody (cc := cL_detailOf) (maxL := 4) (rty := (some .int)) (hh := [(0, 9, 12, 19)]) (own := RL) (lv := [(0, .ref ab), (1, .int x2), (2, .ref ao)]) (by decide +kernel) rfl rfl (Nat.le_of_ble_eq_true rfl) rfl (fun p e s m args below meth c A C XE XN XT => ?_)
  refine z_aload_n C dL_detailOf_0 rfl 2 rfl ?_
  refine z_iconst (v := 0) C dL_detailOf_1 (by decide) ?_
  refine z_aload_n C dL_detailOf_2 rfl 0 rfl ?_
  refine z_iload_n C dL_detailOf_3 rfl 1 rfl ?_
  rcases zca_some hF with ⟨Er1, er1, hF⟩ | ⟨r1, er1, hF⟩
  · by_cases c2 : Er1 = "java/lang/IndexOutOfBoundsException"
    · have hF := zif hF c2
      subst c2
      refine z_lcatchV (n := 1) (As := [.int x2]) (name := "java/lang/IndexOutOfBoundsException") (pre9 := []) (x9 := ⟨0, 9, 12, 19⟩) (suf9 := []) C XE (c_X7_detailOf l hl D cI cJ cZ ab a5 a3 a6 a1 a0 B P M T K U L x2 (.inl "java/lang/IndexOutOfBoundsException") er1) gL_detailOf_X7_detailOf rfl (by decide +kernel) ⟨Nat.le_of_ble_eq_true rfl, Nat.le_of_ble_eq_true rfl⟩ ⟨Nat.le_refl 1, Nat.le_refl 6⟩ 0 rfl rfl [] (zwO cJ ao O) rfl rfl rfl (Nat.le_of_ble_eq_true rfl) dL_detailOf_4 XT (fun z hz => absurd hz List.not_mem_nil) (by decide) (by decide) kL_detailOf_19 XE.2.2.1.1.2.2 (fun q3 => ?_)
      refine z_astore_n (lv' := [(3, .ref q3), (0, .ref ab), (1, .int x2), (2, .ref ao)]) C dL_detailOf_12 rfl (by decide) rfl ?_
      refine z_iconst (v := 1) C dL_detailOf_13 (by decide) ?_
      have hu := Option.some.inj hF
      subst hu
      exact z_lret1 C dL_detailOf_14 rfl rfl
    · have hF := zelse hF c2
      exact absurd hF (fun q => nomatch q)
  · refine z_xcallV_R (n := 1) (As := [.int x2]) (ws' := (zwX7 cI cJ cZ ab a5 a3 a6 a1 a0 B P M T K U L ++ zwO cJ ao O)) C XE (c_X7_detailOf l hl D cI cJ cZ ab a5 a3 a6 a1 a0 B P M T K U L x2 (.inr r1) er1) gL_detailOf_X7_detailOf rfl (by decide +kernel) ⟨Nat.le_of_ble_eq_true rfl, Nat.le_of_ble_eq_true rfl⟩ ⟨Nat.zero_le _, Nat.zero_le _⟩ 0 rfl rfl [] (zwO cJ ao O) rfl rfl rfl rfl (Nat.le_of_ble_eq_true rfl) dL_detailOf_4 ?_
    refine z_i2l C dL_detailOf_7 ?_
    obtain ⟨g4, hF⟩ := zix_some hF
    refine z_last (ws' := (zwX7 cI cJ cZ ab a5 a3 a6 a1 a0 B P M T K U L ++ zwO cJ ao (vp_updL O (0 : Int32).toNatClampNeg ((r1).toInt64)))) C g4 30 rfl rfl dL_detailOf_8 (zr_O cI cJ cZ ab a5 a3 a6 a1 a0 B P M T K U L ao O ((0 : Int32).toNatClampNeg) ((r1).toInt64)) ?_
    refine z_goto (tgt := 15) C dL_detailOf_9 (by decide) ?_
    refine z_iconst (v := 0) C dL_detailOf_15 (by decide) ?_
    have hu := Option.some.inj hF
    subst hu
    refine z_widen (k := 1) (n := 6) (Nat.zero_le _) (Nat.zero_le _) ?_
    exact z_lret1 C dL_detailOf_16 rfl rfl
theorem kL_sumOf_19 : Cond.classLink RL 19 "java/lang/IndexOutOfBoundsException" ∈ wsL_sumOf := by decide +kernel
set_option maxHeartbeats 4000000 in
set_option maxRecDepth 100000 in
theorem c_L_sumOf (l : Launch) (hl : l.stackTraces = false) (D : va_G) (cI cJ cZ : ClassId) (ab : Nat) (a5 : Nat → Nat) (a3 : Nat → Nat) (a6 : Nat → Nat) (a1 : Nat → Nat) (a0 : Nat → Nat) (ao : Nat) (B : SS) (P : SS) (M : SS) (T : SS) (K : SS) (U : SS) (L : SL) (O : SL) (x2 : Int32) (u : Int32 × SL) (hF : f_L_sumOf U L O x2 = some u) : zL l yL_sumOf wsL_sumOf 8 134 D (zTy cI cJ cZ) [.ref ab, .int x2, .ref ao] (zwX7 cI cJ cZ ab a5 a3 a6 a1 a0 B P M T K U L ++ zwO cJ ao O) (some (.int u.1)) (zwX7 cI cJ cZ ab a5 a3 a6 a1 a0 B P M T K U L ++ zwO cJ ao u.2) := by
  refine z_lbody (cc := cL_sumOf) (maxL := 4) (rty := (some .int)) (hh := [(0, 8, 11, 19)]) (own := RL) (lv := [(0, .ref ab), (1, .int x2), (2, .ref ao)]) (by decide +kernel) rfl rfl (Nat.le_of_ble_eq_true rfl) rfl (fun p e s m args below meth c A C XE XN XT => ?_)
  refine z_aload_n C dL_sumOf_0 rfl 2 rfl ?_
  refine z_iconst (v := 0) C dL_sumOf_1 (by decide) ?_
  refine z_aload_n C dL_sumOf_2 rfl 0 rfl ?_
  refine z_iload_n C dL_sumOf_3 rfl 1 rfl ?_
  rcases zca_some hF with ⟨Er1, er1, hF⟩ | ⟨r1, er1, hF⟩
  · by_cases c2 : Er1 = "java/lang/IndexOutOfBoundsException"
    · have hF := zif hF c2
      subst c2
      refine z_lcatchV (n := 1) (As := [.int x2]) (name := "java/lang/IndexOutOfBoundsException") (pre9 := []) (x9 := ⟨0, 8, 11, 19⟩) (suf9 := []) C XE (c_X7_sumOf l hl D cI cJ cZ ab a5 a3 a6 a1 a0 B P M T K U L x2 (.inl "java/lang/IndexOutOfBoundsException") er1) gL_sumOf_X7_sumOf rfl (by decide +kernel) ⟨Nat.le_of_ble_eq_true rfl, Nat.le_of_ble_eq_true rfl⟩ ⟨Nat.le_refl 1, Nat.le_refl 6⟩ 0 rfl rfl [] (zwO cJ ao O) rfl rfl rfl (Nat.le_of_ble_eq_true rfl) dL_sumOf_4 XT (fun z hz => absurd hz List.not_mem_nil) (by decide) (by decide) kL_sumOf_19 XE.2.2.1.1.2.2 (fun q3 => ?_)
      refine z_astore_n (lv' := [(3, .ref q3), (0, .ref ab), (1, .int x2), (2, .ref ao)]) C dL_sumOf_11 rfl (by decide) rfl ?_
      refine z_iconst (v := 1) C dL_sumOf_12 (by decide) ?_
      have hu := Option.some.inj hF
      subst hu
      exact z_lret1 C dL_sumOf_13 rfl rfl
    · have hF := zelse hF c2
      exact absurd hF (fun q => nomatch q)
  · refine z_xcallV_R (n := 1) (As := [.int x2]) (ws' := (zwX7 cI cJ cZ ab a5 a3 a6 a1 a0 B P M T K U L ++ zwO cJ ao O)) C XE (c_X7_sumOf l hl D cI cJ cZ ab a5 a3 a6 a1 a0 B P M T K U L x2 (.inr r1) er1) gL_sumOf_X7_sumOf rfl (by decide +kernel) ⟨Nat.le_of_ble_eq_true rfl, Nat.le_of_ble_eq_true rfl⟩ ⟨Nat.zero_le _, Nat.zero_le _⟩ 0 rfl rfl [] (zwO cJ ao O) rfl rfl rfl rfl (Nat.le_of_ble_eq_true rfl) dL_sumOf_4 ?_
    obtain ⟨g4, hF⟩ := zix_some hF
    refine z_last (ws' := (zwX7 cI cJ cZ ab a5 a3 a6 a1 a0 B P M T K U L ++ zwO cJ ao (vp_updL O (0 : Int32).toNatClampNeg r1))) C g4 30 rfl rfl dL_sumOf_7 (zr_O cI cJ cZ ab a5 a3 a6 a1 a0 B P M T K U L ao O ((0 : Int32).toNatClampNeg) r1) ?_
    refine z_goto (tgt := 14) C dL_sumOf_8 (by decide) ?_
    refine z_iconst (v := 0) C dL_sumOf_14 (by decide) ?_
    have hu := Option.some.inj hF
    subst hu
    refine z_widen (k := 1) (n := 6) (Nat.zero_le _) (Nat.zero_le _) ?_
    exact z_lret1 C dL_sumOf_15 rfl rfl
