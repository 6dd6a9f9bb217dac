theorem kX8_wasGiven_152 : Cond.fieldLink RX8 152 "SecretBrokerModel" "given" "I" ∈ wsX8_wasGiven := by decide +kernel
theorem hX8_wasGiven_X8 : ∀ w ∈ wsX80, w ∈ wsX8_wasGiven := by decide +kernel
set_option maxHeartbeats 4000000 in
set_option maxRecDepth 100000 in
theorem c_X8_wasGiven (l : Launch) (D : va_G) (cI cJ cZ : ClassId) (a8 : Nat → Nat) (S : SS) (V : SL) (x1 : Int32) (u : Int32) (hF : f_X8_wasGiven S x1 = some u) : zM l yX8_wasGiven wsX8_wasGiven ({ frames := 0, cells := 0, slots := 0, locals := 0 }) D (zTy cI cJ cZ) [.ref (a8 0), .int x1] (zwX8 cI cJ cZ a8 S V) (some (.int u)) (zwX8 cI cJ cZ a8 S V) := by
  refine z_body (cc := cX8_wasGiven) (maxL := 2) (rty := (some .boolean)) (own := RX8) (lv := [(0, .ref (a8 0)), (1, .int x1)]) (by decide +kernel) rfl rfl (Nat.le_of_ble_eq_true rfl) rfl (fun p e s m args below meth c A C => ?_)
  refine z_iload_n C dX8_wasGiven_0 rfl 1 rfl ?_
  refine z_if_lt (tgt := 16) C dX8_wasGiven_1 (by decide) (fun c1 => ?_) (fun c1 => ?_)
  · have hF := zif hF c1
    refine z_iconst (v := 0) C dX8_wasGiven_16 (by decide) ?_
    have hu := Option.some.inj hF
    subst hu
    exact z_iret C dX8_wasGiven_17 rfl z_b0
  · have hF := zelse hF c1
    refine z_iload_n C dX8_wasGiven_4 rfl 1 rfl ?_
    refine z_aload_n C dX8_wasGiven_5 rfl 0 rfl ?_
    refine z_get (ref := "SecretBrokerModel") (v := .int (S 19 0)) C hX8_wasGiven_X8 0 rfl rfl 19 (by decide) kX8_wasGiven_152 (fun _ h9 => h9) rfl dX8_wasGiven_6 ?_
    refine z_icmp_ge (tgt := 16) C dX8_wasGiven_9 (by decide) (fun c2 => ?_) (fun c2 => ?_)
    · have hF := zif hF c2
      refine z_iconst (v := 0) C dX8_wasGiven_16 (by decide) ?_
      have hu := Option.some.inj hF
      subst hu
      exact z_iret C dX8_wasGiven_17 rfl z_b0
    · have hF := zelse hF c2
      refine z_iconst (v := 1) C dX8_wasGiven_12 (by decide) ?_
      refine z_goto (tgt := 17) C dX8_wasGiven_13 (by decide) ?_
      have hu := Option.some.inj hF
      subst hu
      exact z_iret C dX8_wasGiven_17 rfl z_b1
theorem kX8_renewCredential_88 : Cond.fieldLink RX8 88 "SecretBrokerModel" "thrown" "I" ∈ wsX8_renewCredential := by decide +kernel
theorem kX8_renewCredential_69 : Cond.fieldLink RX8 69 "SecretBrokerModel" "until" "[I" ∈ wsX8_renewCredential := by decide +kernel
theorem kX8_renewCredential_66 : Cond.fieldLink RX8 66 "SecretBrokerModel" "from" "[I" ∈ wsX8_renewCredential := by decide +kernel
theorem kX8_renewCredential_72 : Cond.fieldLink RX8 72 "SecretBrokerModel" "most" "[I" ∈ wsX8_renewCredential := by decide +kernel
theorem kX8_renewCredential_60 : Cond.fieldLink RX8 60 "SecretBrokerModel" "owner" "[I" ∈ wsX8_renewCredential := by decide +kernel
theorem kX8_renewCredential_57 : Cond.fieldLink RX8 57 "SecretBrokerModel" "works" "[Z" ∈ wsX8_renewCredential := by decide +kernel
theorem hX8_renewCredential_X8 : ∀ w ∈ wsX80, w ∈ wsX8_renewCredential := by decide +kernel
set_option maxHeartbeats 4000000 in
set_option maxRecDepth 100000 in
theorem c_X8_renewCredential_j43 (l : Launch) (D : va_G) (cI cJ cZ : ClassId) (a8 : Nat → Nat) (S : SS) (V : SL) (u : Int32 × SS × SL) {p : Program} {e : Env} {s : State} {m : MethodId} {args : Array Value} {below : List Frame} {meth : Method} {c : Code} {A : Nat → Prop} (C : zC p s m args meth c cX8_renewCredential 3 (some .int) RX8 wsX8_renewCredential D (zTy cI cJ cZ) A s.heap) : ∀ (Sc : SS) (Vc : SL) (v1 : Int32) (v2 : Int32) (s1 : Int32), f_X8_renewCredential_43 Sc Vc v1 v2 s1 = some u → zW p l e { frames := 1, cells := 0, slots := 0, locals := 25 } s m args below meth c 3 D A s.heap 0 0 (MQ below (zQ D (zTy cI cJ cZ) (some (.int u.1)) (zwX8 cI cJ cZ a8 u.2.1 u.2.2) A) args s 0 0 A) (zwX8 cI cJ cZ a8 Sc Vc) [(0, .ref (a8 0)), (1, .int v1), (2, .int v2)] 43 [.int s1, .ref (a8 0)] := by
  intro Sc Vc v1 v2 s1 hF
  refine z_put (ws' := (zwX8 cI cJ cZ a8 (zs Sc 0 s1) Vc)) (ref := "SecretBrokerModel") (ty := .int) C hX8_renewCredential_X8 tyX8 tyX8_ok nmX8 0 rfl rfl 0 (by decide) kX8_renewCredential_88 (fun _ h9 => h9) rfl (by decide +kernel) rfl rfl (Nat.le_of_ble_eq_true rfl) dX8_renewCredential_43 (zs_val Sc 0 s1) (zf_X8_0 cI cJ cZ a8 Sc Vc s1) ?_
  refine z_aload_n C dX8_renewCredential_46 rfl 0 rfl ?_
  refine z_get (ref := "SecretBrokerModel") (v := .int ((zs Sc 0 s1) 0 0)) C hX8_renewCredential_X8 0 rfl rfl 0 (by decide) kX8_renewCredential_88 (fun _ h9 => h9) rfl dX8_renewCredential_47 ?_
  refine z_if_le (tgt := 55) C dX8_renewCredential_50 (by decide) (fun c4 => ?_) (fun c4 => ?_)
  · have hF := zif hF c4
    refine z_aload_n C dX8_renewCredential_55 rfl 0 rfl ?_
    refine z_get (ref := "SecretBrokerModel") (v := .ref (a8 19)) C hX8_renewCredential_X8 0 rfl rfl 24 (by decide) kX8_renewCredential_69 (fun _ h9 => h9) rfl dX8_renewCredential_56 ?_
    refine z_iload_n C dX8_renewCredential_59 rfl 1 rfl ?_
    refine z_aload_n C dX8_renewCredential_60 rfl 0 rfl ?_
    refine z_aload_n C dX8_renewCredential_61 rfl 0 rfl ?_
    refine z_get (ref := "SecretBrokerModel") (v := .ref (a8 18)) C hX8_renewCredential_X8 0 rfl rfl 23 (by decide) kX8_renewCredential_66 (fun _ h9 => h9) rfl dX8_renewCredential_62 ?_
    refine z_iload_n C dX8_renewCredential_65 rfl 1 rfl ?_
    obtain ⟨g5, hF⟩ := zix_some hF
    refine z_iald (v := ((Sc 23) v1.toNatClampNeg)) C g5 18 rfl rfl rfl dX8_renewCredential_66 ?_
    refine z_aload_n C dX8_renewCredential_67 rfl 0 rfl ?_
    refine z_get (ref := "SecretBrokerModel") (v := .ref (a8 19)) C hX8_renewCredential_X8 0 rfl rfl 24 (by decide) kX8_renewCredential_69 (fun _ h9 => h9) rfl dX8_renewCredential_68 ?_
    refine z_iload_n C dX8_renewCredential_71 rfl 1 rfl ?_
    obtain ⟨g6, hF⟩ := zix_some hF
    refine z_iald (v := ((Sc 24) v1.toNatClampNeg)) C g6 19 rfl rfl rfl dX8_renewCredential_72 ?_
    refine z_aload_n C dX8_renewCredential_73 rfl 0 rfl ?_
    refine z_get (ref := "SecretBrokerModel") (v := .ref (a8 20)) C hX8_renewCredential_X8 0 rfl rfl 25 (by decide) kX8_renewCredential_72 (fun _ h9 => h9) rfl dX8_renewCredential_74 ?_
    refine z_iload_n C dX8_renewCredential_77 rfl 1 rfl ?_
    obtain ⟨g7, hF⟩ := zix_some hF
    refine z_iald (v := ((Sc 25) v1.toNatClampNeg)) C g7 20 rfl rfl rfl dX8_renewCredential_78 ?_
    refine z_iload_n C dX8_renewCredential_79 rfl 2 rfl ?_
    obtain ⟨r8, er8, hF⟩ := zbd hF
    refine z_callV (n := 4) (As := [.int ((Sc 23) v1.toNatClampNeg), .int ((Sc 24) v1.toNatClampNeg), .int ((Sc 25) v1.toNatClampNeg), .int v2]) (ws' := (zwX8 cI cJ cZ a8 (zs Sc 0 s1) Vc)) C (c_X8_renewed l D cI cJ cZ a8 (zs Sc 0 s1) Vc ((Sc 23) v1.toNatClampNeg) ((Sc 24) v1.toNatClampNeg) ((Sc 25) v1.toNatClampNeg) v2 r8 er8) gX8_renewCredential_X8_renewed rfl rfl rfl (by decide +kernel) ⟨Nat.le_of_ble_eq_true rfl, Nat.le_of_ble_eq_true rfl⟩ ⟨Nat.zero_le _, Nat.zero_le _⟩ 0 rfl rfl [] [] rfl rfl rfl rfl (Nat.le_of_ble_eq_true rfl) dX8_renewCredential_80 ?_
    obtain ⟨g9, hF⟩ := zix_some hF
    refine z_iast (ws' := (zwX8 cI cJ cZ a8 (za (zs Sc 0 s1) 24 v1 r8) Vc)) C g9 19 rfl rfl dX8_renewCredential_83 (za_row (zs Sc 0 s1) 24 v1 r8) (zr_X8_24 cI cJ cZ a8 (zs Sc 0 s1) Vc v1 r8) ?_
    refine z_aload_n C dX8_renewCredential_84 rfl 0 rfl ?_
    refine z_iconst (v := 1) C dX8_renewCredential_85 (by decide) ?_
    refine z_aload_n C dX8_renewCredential_86 rfl 0 rfl ?_
    refine z_get (ref := "SecretBrokerModel") (v := .ref (a8 16)) C hX8_renewCredential_X8 0 rfl rfl 21 (by decide) kX8_renewCredential_60 (fun _ h9 => h9) rfl dX8_renewCredential_87 ?_
    refine z_iload_n C dX8_renewCredential_90 rfl 1 rfl ?_
    obtain ⟨g10, hF⟩ := zix_some hF
    refine z_iald (v := ((Sc 21) v1.toNatClampNeg)) C g10 16 rfl rfl rfl dX8_renewCredential_91 ?_
    refine z_aload_n C dX8_renewCredential_92 rfl 0 rfl ?_
    refine z_get (ref := "SecretBrokerModel") (v := .ref (a8 19)) C hX8_renewCredential_X8 0 rfl rfl 24 (by decide) kX8_renewCredential_69 (fun _ h9 => h9) rfl dX8_renewCredential_93 ?_
    refine z_iload_n C dX8_renewCredential_96 rfl 1 rfl ?_
    obtain ⟨g11, hF⟩ := zix_some hF
    refine z_iald (v := (((za (zs Sc 0 s1) 24 v1 r8) 24) v1.toNatClampNeg)) C g11 19 rfl rfl rfl dX8_renewCredential_97 ?_
    obtain ⟨r12, er12, hF⟩ := zbd hF
    refine z_callV (n := 3) (As := [.int 1, .int ((Sc 21) v1.toNatClampNeg), .int (((za (zs Sc 0 s1) 24 v1 r8) 24) v1.toNatClampNeg)]) (ws' := (zwX8 cI cJ cZ a8 r12.1 r12.2)) C (c_X8_writes l D cI cJ cZ a8 (za (zs Sc 0 s1) 24 v1 r8) Vc 1 ((Sc 21) v1.toNatClampNeg) (((za (zs Sc 0 s1) 24 v1 r8) 24) v1.toNatClampNeg) r12 er12) gX8_renewCredential_X8_writes rfl rfl rfl (by decide +kernel) ⟨Nat.le_of_ble_eq_true rfl, Nat.le_of_ble_eq_true rfl⟩ ⟨Nat.zero_le _, Nat.zero_le _⟩ 0 rfl rfl [] [] rfl rfl rfl rfl (Nat.le_of_ble_eq_true rfl) dX8_renewCredential_98 ?_
    refine z_aload_n C dX8_renewCredential_101 rfl 0 rfl ?_
    refine z_get (ref := "SecretBrokerModel") (v := .ref (a8 19)) C hX8_renewCredential_X8 0 rfl rfl 24 (by decide) kX8_renewCredential_69 (fun _ h9 => h9) rfl dX8_renewCredential_102 ?_
    refine z_iload_n C dX8_renewCredential_105 rfl 1 rfl ?_
    obtain ⟨g13, hF⟩ := zix_some hF
    refine z_iald (v := ((r12.1 24) v1.toNatClampNeg)) C g13 19 rfl rfl rfl dX8_renewCredential_106 ?_
    have hu := Option.some.inj hF
    subst hu
    exact z_iret C dX8_renewCredential_107 rfl rfl
  · have hF := zelse hF c4
    refine z_iconst (v := 0) C dX8_renewCredential_53 (by decide) ?_
    have hu := Option.some.inj hF
    subst hu
    exact z_iret C dX8_renewCredential_54 rfl rfl
set_option maxHeartbeats 4000000 in
set_option maxRecDepth 100000 in
theorem c_X8_renewCredential_j25 (l : Launch) (D : va_G) (cI cJ cZ : ClassId) (a8 : Nat → Nat) (S : SS) (V : SL) (u : Int32 × SS × SL) {p : Program} {e : Env} {s : State} {m : MethodId} {args : Array Value} {below : List Frame} {meth : Method} {c : Code} {A : Nat → Prop} (C : zC p s m args meth c cX8_renewCredential 3 (some .int) RX8 wsX8_renewCredential D (zTy cI cJ cZ) A s.heap) : ∀ (Sc : SS) (Vc : SL) (v1 : Int32) (v2 : Int32), f_X8_renewCredential_25 Sc Vc v1 v2 = some u → zW p l e { frames := 1, cells := 0, slots := 0, locals := 25 } s m args below meth c 3 D A s.heap 0 0 (MQ below (zQ D (zTy cI cJ cZ) (some (.int u.1)) (zwX8 cI cJ cZ a8 u.2.1 u.2.2) A) args s 0 0 A) (zwX8 cI cJ cZ a8 Sc Vc) [(0, .ref (a8 0)), (1, .int v1), (2, .int v2)] 25 [.ref (a8 0)] := by
  intro Sc Vc v1 v2 hF
  refine z_iconst (v := 2) C dX8_renewCredential_25 (by decide) ?_
  refine z_goto (tgt := 43) C dX8_renewCredential_26 (by decide) ?_
  exact c_X8_renewCredential_j43 l D cI cJ cZ a8 S V u C Sc Vc v1 v2 2 hF
set_option maxHeartbeats 4000000 in
set_option maxRecDepth 100000 in
theorem c_X8_renewCredential (l : Launch) (D : va_G) (cI cJ cZ : ClassId) (a8 : Nat → Nat) (S : SS) (V : SL) (x1 : Int32) (x2 : Int32) (u : Int32 × SS × SL) (hF : f_X8_renewCredential S V x1 x2 = some u) : zM l yX8_renewCredential wsX8_renewCredential ({ frames := 1, cells := 0, slots := 0, locals := 25 }) D (zTy cI cJ cZ) [.ref (a8 0), .int x1, .int x2] (zwX8 cI cJ cZ a8 S V) (some (.int u.1)) (zwX8 cI cJ cZ a8 u.2.1 u.2.2) := by
  refine z_body (cc := cX8_renewCredential) (maxL := 3) (rty := (some .int)) (own := RX8) (lv := [(0, .ref (a8 0)), (1, .int x1), (2, .int x2)]) (by decide +kernel) rfl rfl (Nat.le_of_ble_eq_true rfl) rfl (fun p e s m args below meth c A C => ?_)
  refine z_aload_n C dX8_renewCredential_0 rfl 0 rfl ?_
  refine z_aload_n C dX8_renewCredential_1 rfl 0 rfl ?_
  refine z_iload_n C dX8_renewCredential_2 rfl 1 rfl ?_
  obtain ⟨r1, er1, hF⟩ := zbd hF
  refine z_callV (n := 1) (As := [.int x1]) (ws' := (zwX8 cI cJ cZ a8 S V)) C (c_X8_wasGiven l D cI cJ cZ a8 S V x1 r1 er1) gX8_renewCredential_X8_wasGiven rfl rfl rfl (by decide +kernel) ⟨Nat.le_of_ble_eq_true rfl, Nat.le_of_ble_eq_true rfl⟩ ⟨Nat.zero_le _, Nat.zero_le _⟩ 0 rfl rfl [] [] rfl rfl rfl rfl (Nat.le_of_ble_eq_true rfl) dX8_renewCredential_3 ?_
  refine z_if_ne (tgt := 13) C dX8_renewCredential_6 (by decide) (fun c2 => ?_) (fun c2 => ?_)
  · have hF := zelse hF c2
    refine z_iload_n C dX8_renewCredential_13 rfl 2 rfl ?_
    refine z_iconst (v := 1) C dX8_renewCredential_14 (by decide) ?_
    refine z_icmp_lt (tgt := 25) C dX8_renewCredential_15 (by decide) (fun c3 => ?_) (fun c3 => ?_)
    · have hF := zif hF c3
      exact c_X8_renewCredential_j25 l D cI cJ cZ a8 S V u C S V x1 x2 hF
    · have hF := zelse hF c3
      refine z_iload_n C dX8_renewCredential_18 rfl 2 rfl ?_
      refine z_sipush (v := 1000) C dX8_renewCredential_19 (by decide) ?_
      refine z_icmp_le (tgt := 29) C dX8_renewCredential_22 (by decide) (fun c14 => ?_) (fun c14 => ?_)
      · have hF := zif hF c14
        refine z_aload_n C dX8_renewCredential_29 rfl 0 rfl ?_
        refine z_get (ref := "SecretBrokerModel") (v := .ref (a8 15)) C hX8_renewCredential_X8 0 rfl rfl 20 (by decide) kX8_renewCredential_57 (fun _ h9 => h9) rfl dX8_renewCredential_30 ?_
        refine z_iload_n C dX8_renewCredential_33 rfl 1 rfl ?_
        obtain ⟨g15, hF⟩ := zix_some hF
        refine z_zald (v := ((S 20) x1.toNatClampNeg)) C g15 15 rfl rfl rfl dX8_renewCredential_34 ?_
        refine z_if_ne (tgt := 42) C dX8_renewCredential_35 (by decide) (fun c16 => ?_) (fun c16 => ?_)
        · have hF := zelse hF c16
          refine z_iconst (v := 0) C dX8_renewCredential_42 (by decide) ?_
          exact c_X8_renewCredential_j43 l D cI cJ cZ a8 S V u C S V x1 x2 0 hF
        · have hF := zif hF c16
          refine z_iconst (v := 3) C dX8_renewCredential_38 (by decide) ?_
          refine z_goto (tgt := 43) C dX8_renewCredential_39 (by decide) ?_
          exact c_X8_renewCredential_j43 l D cI cJ cZ a8 S V u C S V x1 x2 3 hF
      · have hF := zelse hF c14
        exact c_X8_renewCredential_j25 l D cI cJ cZ a8 S V u C S V x1 x2 hF
  · have hF := zif hF c2
    refine z_iconst (v := 1) C dX8_renewCredential_9 (by decide) ?_
    refine z_goto (tgt := 43) C dX8_renewCredential_10 (by decide) ?_
    exact c_X8_renewCredential_j43 l D cI cJ cZ a8 S V u C S V x1 x2 1 hF
theorem kX8_revokeBelow_88 : Cond.fieldLink RX8 88 "SecretBrokerModel" "thrown" "I" ∈ wsX8_revokeBelow := by decide +kernel
theorem kX8_revokeBelow_152 : Cond.fieldLink RX8 152 "SecretBrokerModel" "given" "I" ∈ wsX8_revokeBelow := by decide +kernel
theorem kX8_revokeBelow_57 : Cond.fieldLink RX8 57 "SecretBrokerModel" "works" "[Z" ∈ wsX8_revokeBelow := by decide +kernel
theorem kX8_revokeBelow_63 : Cond.fieldLink RX8 63 "SecretBrokerModel" "path" "[I" ∈ wsX8_revokeBelow := by decide +kernel
theorem hX8_revokeBelow_X8 : ∀ w ∈ wsX80, w ∈ wsX8_revokeBelow := by decide +kernel
set_option maxHeartbeats 4000000 in
set_option maxRecDepth 100000 in
theorem c_X8_revokeBelow_j29 (l : Launch) (D : va_G) (cI cJ cZ : ClassId) (a8 : Nat → Nat) (S : SS) (V : SL) (u : Int32 × SS × SL) {p : Program} {e : Env} {s : State} {m : MethodId} {args : Array Value} {below : List Frame} {meth : Method} {c : Code} {A : Nat → Prop} (C : zC p s m args meth c cX8_revokeBelow 4 (some .int) RX8 wsX8_revokeBelow D (zTy cI cJ cZ) A s.heap) : ∀ (n : Nat) (Sc : SS) (Vc : SL) (v1 : Int32) (v2 : Int32) (v3 : Int32), f_X8_revokeBelow_29 n Sc Vc v1 v2 v3 = some u → zW p l e { frames := 3, cells := 0, slots := 0, locals := 66 } s m args below meth c 4 D A s.heap 0 0 (MQ below (zQ D (zTy cI cJ cZ) (some (.int u.1)) (zwX8 cI cJ cZ a8 u.2.1 u.2.2) A) args s 0 0 A) (zwX8 cI cJ cZ a8 Sc Vc) [(0, .ref (a8 0)), (1, .int v1), (2, .int v2), (3, .int v3)] 29 [] := by
  intro n
  induction n with
  | zero => intro Sc Vc v1 v2 v3 hF; exact absurd (show none = some u from hF) (fun q => nomatch q)
  | succ n ih =>
    intro Sc Vc v1 v2 v3 hF
    refine z_iload_n C dX8_revokeBelow_29 rfl 3 rfl ?_
    refine z_aload_n C dX8_revokeBelow_30 rfl 0 rfl ?_
    refine z_get (ref := "SecretBrokerModel") (v := .int (Sc 19 0)) C hX8_revokeBelow_X8 0 rfl rfl 19 (by decide) kX8_revokeBelow_152 (fun _ h9 => h9) rfl dX8_revokeBelow_31 ?_
    refine z_icmp_ge (tgt := 75) C dX8_revokeBelow_34 (by decide) (fun c4 => ?_) (fun c4 => ?_)
    · have hF := zif hF c4
      refine z_aload_n C dX8_revokeBelow_75 rfl 0 rfl ?_
      refine z_iconst (v := 4) C dX8_revokeBelow_76 (by decide) ?_
      refine z_iconst (v := 0) C dX8_revokeBelow_77 (by decide) ?_
      refine z_iload_n C dX8_revokeBelow_78 rfl 2 rfl ?_
      obtain ⟨r5, er5, hF⟩ := zbd hF
      refine z_callV (n := 3) (As := [.int 4, .int 0, .int v2]) (ws' := (zwX8 cI cJ cZ a8 r5.1 r5.2)) C (c_X8_writes l D cI cJ cZ a8 Sc Vc 4 0 v2 r5 er5) gX8_revokeBelow_X8_writes rfl rfl rfl (by decide +kernel) ⟨Nat.le_of_ble_eq_true rfl, Nat.le_of_ble_eq_true rfl⟩ ⟨Nat.zero_le _, Nat.zero_le _⟩ 0 rfl rfl [] [] rfl rfl rfl rfl (Nat.le_of_ble_eq_true rfl) dX8_revokeBelow_79 ?_
      refine z_iload_n C dX8_revokeBelow_82 rfl 2 rfl ?_
      have hu := Option.some.inj hF
      subst hu
      exact z_iret C dX8_revokeBelow_83 rfl rfl
    · have hF := zelse hF c4
      refine z_aload_n C dX8_revokeBelow_37 rfl 0 rfl ?_
      refine z_get (ref := "SecretBrokerModel") (v := .ref (a8 15)) C hX8_revokeBelow_X8 0 rfl rfl 20 (by decide) kX8_revokeBelow_57 (fun _ h9 => h9) rfl dX8_revokeBelow_38 ?_
      refine z_iload_n C dX8_revokeBelow_41 rfl 3 rfl ?_
      obtain ⟨g6, hF⟩ := zix_some hF
      refine z_zald (v := ((Sc 20) v3.toNatClampNeg)) C g6 15 rfl rfl rfl dX8_revokeBelow_42 ?_
      refine z_if_eq (tgt := 69) C dX8_revokeBelow_43 (by decide) (fun c7 => ?_) (fun c7 => ?_)
      · have hF := zif hF c7
        refine z_iinc (v := (v3 + 1)) (lv' := [(3, .int (v3 + 1)), (0, .ref (a8 0)), (1, .int v1), (2, .int v2)]) C dX8_revokeBelow_69 3 rfl rfl (by decide) rfl ?_
        refine z_goto (tgt := 29) C dX8_revokeBelow_72 (by decide) ?_
        exact z_sub C [1, 2, 3, 0] rfl (ih Sc Vc v1 v2 (v3 + 1) hF)
      · have hF := zelse hF c7
        refine z_aload_n C dX8_revokeBelow_46 rfl 0 rfl ?_
        refine z_get (ref := "SecretBrokerModel") (v := .ref (a8 17)) C hX8_revokeBelow_X8 0 rfl rfl 22 (by decide) kX8_revokeBelow_63 (fun _ h9 => h9) rfl dX8_revokeBelow_47 ?_
        refine z_iload_n C dX8_revokeBelow_50 rfl 3 rfl ?_
        obtain ⟨g8, hF⟩ := zix_some hF
        refine z_iald (v := ((Sc 22) v3.toNatClampNeg)) C g8 17 rfl rfl rfl dX8_revokeBelow_51 ?_
        refine z_iload_n C dX8_revokeBelow_52 rfl 1 rfl ?_
        obtain ⟨r9, er9, hF⟩ := zbd hF
        refine z_callS (n := 2) (As := [.int ((Sc 22) v3.toNatClampNeg), .int v1]) C (c_X8_isBelow l D cI cJ cZ ((Sc 22) v3.toNatClampNeg) v1 r9 er9) gX8_revokeBelow_X8_isBelow rfl rfl rfl (by decide +kernel) ⟨Nat.le_of_ble_eq_true rfl, Nat.le_of_ble_eq_true rfl⟩ ⟨Nat.zero_le _, Nat.zero_le _⟩ rfl rfl (Nat.le_of_ble_eq_true rfl) dX8_revokeBelow_53 ?_
        refine z_if_eq (tgt := 69) C dX8_revokeBelow_56 (by decide) (fun c10 => ?_) (fun c10 => ?_)
        · have hF := zif hF c10
          refine z_iinc (v := (v3 + 1)) (lv' := [(3, .int (v3 + 1)), (0, .ref (a8 0)), (1, .int v1), (2, .int v2)]) C dX8_revokeBelow_69 3 rfl rfl (by decide) rfl ?_
          refine z_goto (tgt := 29) C dX8_revokeBelow_72 (by decide) ?_
          exact z_sub C [1, 2, 3, 0] rfl (ih Sc Vc v1 v2 (v3 + 1) hF)
        · have hF := zelse hF c10
          refine z_aload_n C dX8_revokeBelow_59 rfl 0 rfl ?_
          refine z_get (ref := "SecretBrokerModel") (v := .ref (a8 15)) C hX8_revokeBelow_X8 0 rfl rfl 20 (by decide) kX8_revokeBelow_57 (fun _ h9 => h9) rfl dX8_revokeBelow_60 ?_
          refine z_iload_n C dX8_revokeBelow_63 rfl 3 rfl ?_
          refine z_iconst (v := 0) C dX8_revokeBelow_64 (by decide) ?_
          obtain ⟨g11, hF⟩ := zix_some hF
          refine z_zast (ws' := (zwX8 cI cJ cZ a8 (za Sc 20 v3 (vp_nar .boolean 0)) Vc)) C g11 15 rfl rfl dX8_revokeBelow_65 (za_row Sc 20 v3 (vp_nar .boolean 0)) (zr_X8_20 cI cJ cZ a8 Sc Vc v3 (vp_nar .boolean 0)) ?_
          refine z_iinc (v := (v2 + 1)) (lv' := [(2, .int (v2 + 1)), (0, .ref (a8 0)), (1, .int v1), (3, .int v3)]) C dX8_revokeBelow_66 2 rfl rfl (by decide) rfl ?_
          refine z_iinc (v := (v3 + 1)) (lv' := [(3, .int (v3 + 1)), (2, .int (v2 + 1)), (0, .ref (a8 0)), (1, .int v1)]) C dX8_revokeBelow_69 3 rfl rfl (by decide) rfl ?_
          refine z_goto (tgt := 29) C dX8_revokeBelow_72 (by decide) ?_
          exact z_sub C [2, 3, 1, 0] rfl (ih (za Sc 20 v3 (vp_nar .boolean 0)) Vc v1 (v2 + 1) (v3 + 1) hF)
set_option maxHeartbeats 4000000 in
set_option maxRecDepth 100000 in
theorem c_X8_revokeBelow (l : Launch) (D : va_G) (cI cJ cZ : ClassId) (a8 : Nat → Nat) (S : SS) (V : SL) (x1 : Int32) (u : Int32 × SS × SL) (hF : f_X8_revokeBelow S V x1 = some u) : zM l yX8_revokeBelow wsX8_revokeBelow ({ frames := 3, cells := 0, slots := 0, locals := 66 }) D (zTy cI cJ cZ) [.ref (a8 0), .int x1] (zwX8 cI cJ cZ a8 S V) (some (.int u.1)) (zwX8 cI cJ cZ a8 u.2.1 u.2.2) := by
  refine z_body (cc := cX8_revokeBelow) (maxL := 4) (rty := (some .int)) (own := RX8) (lv := [(0, .ref (a8 0)), (1, .int x1)]) (by decide +kernel) rfl rfl (Nat.le_of_ble_eq_true rfl) rfl (fun p e s m args below meth c A C => ?_)
  refine z_aload_n C dX8_revokeBelow_0 rfl 0 rfl ?_
  refine z_iload_n C dX8_revokeBelow_1 rfl 1 rfl ?_
  obtain ⟨r1, er1, hF⟩ := zbd hF
  refine z_callS (n := 1) (As := [.int x1]) C (c_X8_isPath l D cI cJ cZ x1 r1 er1) gX8_revokeBelow_X8_isPath rfl rfl rfl (by decide +kernel) ⟨Nat.le_of_ble_eq_true rfl, Nat.le_of_ble_eq_true rfl⟩ ⟨Nat.zero_le _, Nat.zero_le _⟩ rfl rfl (Nat.le_of_ble_eq_true rfl) dX8_revokeBelow_2 ?_
  refine z_if_eq (tgt := 12) C dX8_revokeBelow_5 (by decide) (fun c2 => ?_) (fun c2 => ?_)
  · have hF := zif hF c2
    refine z_iconst (v := 1) C dX8_revokeBelow_12 (by decide) ?_
    refine z_put (ws' := (zwX8 cI cJ cZ a8 (zs S 0 1) V)) (ref := "SecretBrokerModel") (ty := .int) C hX8_revokeBelow_X8 tyX8 tyX8_ok nmX8 0 rfl rfl 0 (by decide) kX8_revokeBelow_88 (fun _ h9 => h9) rfl (by decide +kernel) rfl rfl (Nat.le_of_ble_eq_true rfl) dX8_revokeBelow_13 (zs_val S 0 1) (zf_X8_0 cI cJ cZ a8 S V 1) ?_
    refine z_aload_n C dX8_revokeBelow_16 rfl 0 rfl ?_
    refine z_get (ref := "SecretBrokerModel") (v := .int ((zs S 0 1) 0 0)) C hX8_revokeBelow_X8 0 rfl rfl 0 (by decide) kX8_revokeBelow_88 (fun _ h9 => h9) rfl dX8_revokeBelow_17 ?_
    refine z_if_le (tgt := 25) C dX8_revokeBelow_20 (by decide) (fun c3 => ?_) (fun c3 => ?_)
    · have hF := zif hF c3
      refine z_iconst (v := 0) C dX8_revokeBelow_25 (by decide) ?_
      refine z_istore_n (lv' := [(2, .int 0), (0, .ref (a8 0)), (1, .int x1)]) C dX8_revokeBelow_26 rfl (by decide) rfl ?_
      refine z_iconst (v := 0) C dX8_revokeBelow_27 (by decide) ?_
      refine z_istore_n (lv' := [(3, .int 0), (2, .int 0), (0, .ref (a8 0)), (1, .int x1)]) C dX8_revokeBelow_28 rfl (by decide) rfl ?_
      exact z_sub C [2, 3, 1, 0] rfl (c_X8_revokeBelow_j29 l D cI cJ cZ a8 S V u C 600 (zs S 0 1) V x1 0 0 hF)
    · have hF := zelse hF c3
      refine z_iconst (v := 0) C dX8_revokeBelow_23 (by decide) ?_
      have hu := Option.some.inj hF
      subst hu
      exact z_iret C dX8_revokeBelow_24 rfl rfl
  · have hF := zelse hF c2
    refine z_iconst (v := 0) C dX8_revokeBelow_8 (by decide) ?_
    refine z_goto (tgt := 13) C dX8_revokeBelow_9 (by decide) ?_
    refine z_put (ws' := (zwX8 cI cJ cZ a8 (zs S 0 0) V)) (ref := "SecretBrokerModel") (ty := .int) C hX8_revokeBelow_X8 tyX8 tyX8_ok nmX8 0 rfl rfl 0 (by decide) kX8_revokeBelow_88 (fun _ h9 => h9) rfl (by decide +kernel) rfl rfl (Nat.le_of_ble_eq_true rfl) dX8_revokeBelow_13 (zs_val S 0 0) (zf_X8_0 cI cJ cZ a8 S V 0) ?_
    refine z_aload_n C dX8_revokeBelow_16 rfl 0 rfl ?_
    refine z_get (ref := "SecretBrokerModel") (v := .int ((zs S 0 0) 0 0)) C hX8_revokeBelow_X8 0 rfl rfl 0 (by decide) kX8_revokeBelow_88 (fun _ h9 => h9) rfl dX8_revokeBelow_17 ?_
    refine z_if_le (tgt := 25) C dX8_revokeBelow_20 (by decide) (fun c12 => ?_) (fun c12 => ?_)
    · have hF := zif hF c12
      refine z_iconst (v := 0) C dX8_revokeBelow_25 (by decide) ?_
      refine z_istore_n (lv' := [(2, .int 0), (0, .ref (a8 0)), (1, .int x1)]) C dX8_revokeBelow_26 rfl (by decide) rfl ?_
      refine z_iconst (v := 0) C dX8_revokeBelow_27 (by decide) ?_
      refine z_istore_n (lv' := [(3, .int 0), (2, .int 0), (0, .ref (a8 0)), (1, .int x1)]) C dX8_revokeBelow_28 rfl (by decide) rfl ?_
      exact z_sub C [2, 3, 1, 0] rfl (c_X8_revokeBelow_j29 l D cI cJ cZ a8 S V u C 600 (zs S 0 0) V x1 0 0 hF)
    · have hF := zelse hF c12
      refine z_iconst (v := 0) C dX8_revokeBelow_23 (by decide) ?_
      have hu := Option.some.inj hF
      subst hu
      exact z_iret C dX8_revokeBelow_24 rfl rfl
theorem kX8_works_88 : Cond.fieldLink RX8 88 "SecretBrokerModel" "thrown" "I" ∈ wsX8_works := by decide +kernel
theorem kX8_works_57 : Cond.fieldLink RX8 57 "SecretBrokerModel" "works" "[Z" ∈ wsX8_works := by decide +kernel
theorem hX8_works_X8 : ∀ w ∈ wsX80, w ∈ wsX8_works := by decide +kernel
set_option maxHeartbeats 4000000 in
set_option maxRecDepth 100000 in
theorem c_X8_works (l : Launch) (D : va_G) (cI cJ cZ : ClassId) (a8 : Nat → Nat) (S : SS) (V : SL) (x1 : Int32) (u : Int32 × SS) (hF : f_X8_works S x1 = some u) : zM l yX8_works wsX8_works ({ frames := 1, cells := 0, slots := 0, locals := 21 }) D (zTy cI cJ cZ) [.ref (a8 0), .int x1] (zwX8 cI cJ cZ a8 S V) (some (.int u.1)) (zwX8 cI cJ cZ a8 u.2 V) := by
  refine z_body (cc := cX8_works) (maxL := 2) (rty := (some .boolean)) (own := RX8) (lv := [(0, .ref (a8 0)), (1, .int x1)]) (by decide +kernel) rfl rfl (Nat.le_of_ble_eq_true rfl) rfl (fun p e s m args below meth c A C => ?_)
  refine z_aload_n C dX8_works_0 rfl 0 rfl ?_
  refine z_aload_n C dX8_works_1 rfl 0 rfl ?_
  refine z_iload_n C dX8_works_2 rfl 1 rfl ?_
  obtain ⟨r1, er1, hF⟩ := zbd hF
  refine z_callV (n := 1) (As := [.int x1]) (ws' := (zwX8 cI cJ cZ a8 S V)) C (c_X8_wasGiven l D cI cJ cZ a8 S V x1 r1 er1) gX8_works_X8_wasGiven rfl rfl rfl (by decide +kernel) ⟨Nat.le_of_ble_eq_true rfl, Nat.le_of_ble_eq_true rfl⟩ ⟨Nat.zero_le _, Nat.zero_le _⟩ 0 rfl rfl [] [] rfl rfl rfl rfl (Nat.le_of_ble_eq_true rfl) dX8_works_3 ?_
  refine z_if_eq (tgt := 13) C dX8_works_6 (by decide) (fun c2 => ?_) (fun c2 => ?_)
  · have hF := zif hF c2
    refine z_iconst (v := 1) C dX8_works_13 (by decide) ?_
    refine z_put (ws' := (zwX8 cI cJ cZ a8 (zs S 0 1) V)) (ref := "SecretBrokerModel") (ty := .int) C hX8_works_X8 tyX8 tyX8_ok nmX8 0 rfl rfl 0 (by decide) kX8_works_88 (fun _ h9 => h9) rfl (by decide +kernel) rfl rfl (Nat.le_of_ble_eq_true rfl) dX8_works_14 (zs_val S 0 1) (zf_X8_0 cI cJ cZ a8 S V 1) ?_
    refine z_aload_n C dX8_works_17 rfl 0 rfl ?_
    refine z_get (ref := "SecretBrokerModel") (v := .int ((zs S 0 1) 0 0)) C hX8_works_X8 0 rfl rfl 0 (by decide) kX8_works_88 (fun _ h9 => h9) rfl dX8_works_18 ?_
    refine z_if_ne (tgt := 37) C dX8_works_21 (by decide) (fun c3 => ?_) (fun c3 => ?_)
    · have hF := zelse hF c3
      refine z_iconst (v := 0) C dX8_works_37 (by decide) ?_
      have hu := Option.some.inj hF
      subst hu
      exact z_iret C dX8_works_38 rfl z_b0
    · have hF := zif hF c3
      refine z_aload_n C dX8_works_24 rfl 0 rfl ?_
      refine z_get (ref := "SecretBrokerModel") (v := .ref (a8 15)) C hX8_works_X8 0 rfl rfl 20 (by decide) kX8_works_57 (fun _ h9 => h9) rfl dX8_works_25 ?_
      refine z_iload_n C dX8_works_28 rfl 1 rfl ?_
      obtain ⟨g4, hF⟩ := zix_some hF
      refine z_zald (v := ((S 20) x1.toNatClampNeg)) C g4 15 rfl rfl rfl dX8_works_29 ?_
      refine z_if_eq (tgt := 37) C dX8_works_30 (by decide) (fun c5 => ?_) (fun c5 => ?_)
      · have hF := zif hF c5
        refine z_iconst (v := 0) C dX8_works_37 (by decide) ?_
        have hu := Option.some.inj hF
        subst hu
        exact z_iret C dX8_works_38 rfl z_b0
      · have hF := zelse hF c5
        refine z_iconst (v := 1) C dX8_works_33 (by decide) ?_
        refine z_goto (tgt := 38) C dX8_works_34 (by decide) ?_
        have hu := Option.some.inj hF
        subst hu
        exact z_iret C dX8_works_38 rfl z_b1
  · have hF := zelse hF c2
    refine z_iconst (v := 0) C dX8_works_9 (by decide) ?_
    refine z_goto (tgt := 14) C dX8_works_10 (by decide) ?_
    refine z_put (ws' := (zwX8 cI cJ cZ a8 (zs S 0 0) V)) (ref := "SecretBrokerModel") (ty := .int) C hX8_works_X8 tyX8 tyX8_ok nmX8 0 rfl rfl 0 (by decide) kX8_works_88 (fun _ h9 => h9) rfl (by decide +kernel) rfl rfl (Nat.le_of_ble_eq_true rfl) dX8_works_14 (zs_val S 0 0) (zf_X8_0 cI cJ cZ a8 S V 0) ?_
    refine z_aload_n C dX8_works_17 rfl 0 rfl ?_
    refine z_get (ref := "SecretBrokerModel") (v := .int ((zs S 0 0) 0 0)) C hX8_works_X8 0 rfl rfl 0 (by decide) kX8_works_88 (fun _ h9 => h9) rfl dX8_works_18 ?_
    refine z_if_ne (tgt := 37) C dX8_works_21 (by decide) (fun c6 => ?_) (fun c6 => ?_)
    · have hF := zelse hF c6
      refine z_iconst (v := 0) C dX8_works_37 (by decide) ?_
      have hu := Option.some.inj hF
      subst hu
      exact z_iret C dX8_works_38 rfl z_b0
    · have hF := zif hF c6
      refine z_aload_n C dX8_works_24 rfl 0 rfl ?_
      refine z_get (ref := "SecretBrokerModel") (v := .ref (a8 15)) C hX8_works_X8 0 rfl rfl 20 (by decide) kX8_works_57 (fun _ h9 => h9) rfl dX8_works_25 ?_
      refine z_iload_n C dX8_works_28 rfl 1 rfl ?_
      obtain ⟨g7, hF⟩ := zix_some hF
      refine z_zald (v := ((S 20) x1.toNatClampNeg)) C g7 15 rfl rfl rfl dX8_works_29 ?_
      refine z_if_eq (tgt := 37) C dX8_works_30 (by decide) (fun c8 => ?_) (fun c8 => ?_)
      · have hF := zif hF c8
        refine z_iconst (v := 0) C dX8_works_37 (by decide) ?_
        have hu := Option.some.inj hF
        subst hu
        exact z_iret C dX8_works_38 rfl z_b0
      · have hF := zelse hF c8
        refine z_iconst (v := 1) C dX8_works_33 (by decide) ?_
        refine z_goto (tgt := 38) C dX8_works_34 (by decide) ?_
        have hu := Option.some.inj hF
        subst hu
        exact z_iret C dX8_works_38 rfl z_b1
theorem kX8_endOfCredential_88 : Cond.fieldLink RX8 88 "SecretBrokerModel" "thrown" "I" ∈ wsX8_endOfCredential := by decide +kernel
theorem kX8_endOfCredential_69 : Cond.fieldLink RX8 69 "SecretBrokerModel" "until" "[I" ∈ wsX8_endOfCredential := by decide +kernel
theorem hX8_endOfCredential_X8 : ∀ w ∈ wsX80, w ∈ wsX8_endOfCredential := by decide +kernel
set_option maxHeartbeats 4000000 in
set_option maxRecDepth 100000 in
theorem c_X8_endOfCredential (l : Launch) (D : va_G) (cI cJ cZ : ClassId) (a8 : Nat → Nat) (S : SS) (V : SL) (x1 : Int32) (u : Int32 × SS) (hF : f_X8_endOfCredential S x1 = some u) : zM l yX8_endOfCredential wsX8_endOfCredential ({ frames := 1, cells := 0, slots := 0, locals := 21 }) D (zTy cI cJ cZ) [.ref (a8 0), .int x1] (zwX8 cI cJ cZ a8 S V) (some (.int u.1)) (zwX8 cI cJ cZ a8 u.2 V) := by
  refine z_body (cc := cX8_endOfCredential) (maxL := 2) (rty := (some .int)) (own := RX8) (lv := [(0, .ref (a8 0)), (1, .int x1)]) (by decide +kernel) rfl rfl (Nat.le_of_ble_eq_true rfl) rfl (fun p e s m args below meth c A C => ?_)
  refine z_aload_n C dX8_endOfCredential_0 rfl 0 rfl ?_
  refine z_aload_n C dX8_endOfCredential_1 rfl 0 rfl ?_
  refine z_iload_n C dX8_endOfCredential_2 rfl 1 rfl ?_
  obtain ⟨r1, er1, hF⟩ := zbd hF
  refine z_callV (n := 1) (As := [.int x1]) (ws' := (zwX8 cI cJ cZ a8 S V)) C (c_X8_wasGiven l D cI cJ cZ a8 S V x1 r1 er1) gX8_endOfCredential_X8_wasGiven rfl rfl rfl (by decide +kernel) ⟨Nat.le_of_ble_eq_true rfl, Nat.le_of_ble_eq_true rfl⟩ ⟨Nat.zero_le _, Nat.zero_le _⟩ 0 rfl rfl [] [] rfl rfl rfl rfl (Nat.le_of_ble_eq_true rfl) dX8_endOfCredential_3 ?_
  refine z_if_eq (tgt := 13) C dX8_endOfCredential_6 (by decide) (fun c2 => ?_) (fun c2 => ?_)
  · have hF := zif hF c2
    refine z_iconst (v := 1) C dX8_endOfCredential_13 (by decide) ?_
    refine z_put (ws' := (zwX8 cI cJ cZ a8 (zs S 0 1) V)) (ref := "SecretBrokerModel") (ty := .int) C hX8_endOfCredential_X8 tyX8 tyX8_ok nmX8 0 rfl rfl 0 (by decide) kX8_endOfCredential_88 (fun _ h9 => h9) rfl (by decide +kernel) rfl rfl (Nat.le_of_ble_eq_true rfl) dX8_endOfCredential_14 (zs_val S 0 1) (zf_X8_0 cI cJ cZ a8 S V 1) ?_
    refine z_aload_n C dX8_endOfCredential_17 rfl 0 rfl ?_
    refine z_get (ref := "SecretBrokerModel") (v := .int ((zs S 0 1) 0 0)) C hX8_endOfCredential_X8 0 rfl rfl 0 (by decide) kX8_endOfCredential_88 (fun _ h9 => h9) rfl dX8_endOfCredential_18 ?_
    refine z_if_le (tgt := 28) C dX8_endOfCredential_21 (by decide) (fun c3 => ?_) (fun c3 => ?_)
    · have hF := zif hF c3
      refine z_aload_n C dX8_endOfCredential_28 rfl 0 rfl ?_
      refine z_get (ref := "SecretBrokerModel") (v := .ref (a8 19)) C hX8_endOfCredential_X8 0 rfl rfl 24 (by decide) kX8_endOfCredential_69 (fun _ h9 => h9) rfl dX8_endOfCredential_29 ?_
      refine z_iload_n C dX8_endOfCredential_32 rfl 1 rfl ?_
      obtain ⟨g4, hF⟩ := zix_some hF
      refine z_iald (v := ((S 24) x1.toNatClampNeg)) C g4 19 rfl rfl rfl dX8_endOfCredential_33 ?_
      have hu := Option.some.inj hF
      subst hu
      exact z_iret C dX8_endOfCredential_34 rfl rfl
    · have hF := zelse hF c3
      refine z_iconst (v := 0) C dX8_endOfCredential_24 (by decide) ?_
      refine z_goto (tgt := 34) C dX8_endOfCredential_25 (by decide) ?_
      have hu := Option.some.inj hF
      subst hu
      exact z_iret C dX8_endOfCredential_34 rfl rfl
  · have hF := zelse hF c2
    refine z_iconst (v := 0) C dX8_endOfCredential_9 (by decide) ?_
    refine z_goto (tgt := 14) C dX8_endOfCredential_10 (by decide) ?_
    refine z_put (ws' := (zwX8 cI cJ cZ a8 (zs S 0 0) V)) (ref := "SecretBrokerModel") (ty := .int) C hX8_endOfCredential_X8 tyX8 tyX8_ok nmX8 0 rfl rfl 0 (by decide) kX8_endOfCredential_88 (fun _ h9 => h9) rfl (by decide +kernel) rfl rfl (Nat.le_of_ble_eq_true rfl) dX8_endOfCredential_14 (zs_val S 0 0) (zf_X8_0 cI cJ cZ a8 S V 0) ?_
    refine z_aload_n C dX8_endOfCredential_17 rfl 0 rfl ?_
    refine z_get (ref := "SecretBrokerModel") (v := .int ((zs S 0 0) 0 0)) C hX8_endOfCredential_X8 0 rfl rfl 0 (by decide) kX8_endOfCredential_88 (fun _ h9 => h9) rfl dX8_endOfCredential_18 ?_
    refine z_if_le (tgt := 28) C dX8_endOfCredential_21 (by decide) (fun c5 => ?_) (fun c5 => ?_)
    · have hF := zif hF c5
      refine z_aload_n C dX8_endOfCredential_28 rfl 0 rfl ?_
      refine z_get (ref := "SecretBrokerModel") (v := .ref (a8 19)) C hX8_endOfCredential_X8 0 rfl rfl 24 (by decide) kX8_endOfCredential_69 (fun _ h9 => h9) rfl dX8_endOfCredential_29 ?_
      refine z_iload_n C dX8_endOfCredential_32 rfl 1 rfl ?_
      obtain ⟨g6, hF⟩ := zix_some hF
      refine z_iald (v := ((S 24) x1.toNatClampNeg)) C g6 19 rfl rfl rfl dX8_endOfCredential_33 ?_
      have hu := Option.some.inj hF
      subst hu
      exact z_iret C dX8_endOfCredential_34 rfl rfl
    · have hF := zelse hF c5
      refine z_iconst (v := 0) C dX8_endOfCredential_24 (by decide) ?_
      refine z_goto (tgt := 34) C dX8_endOfCredential_25 (by decide) ?_
      have hu := Option.some.inj hF
      subst hu
      exact z_iret C dX8_endOfCredential_34 rfl rfl
theorem kX8_credentials_88 : Cond.fieldLink RX8 88 "SecretBrokerModel" "thrown" "I" ∈ wsX8_credentials := by decide +kernel
theorem hX8_credentials_X8 : ∀ w ∈ wsX80, w ∈ wsX8_credentials := by decide +kernel
set_option maxHeartbeats 4000000 in
set_option maxRecDepth 100000 in
theorem c_X8_credentials (l : Launch) (D : va_G) (cI cJ cZ : ClassId) (a8 : Nat → Nat) (S : SS) (V : SL) (u : Int32 × SS) (hF : f_X8_credentials S = some u) : zM l yX8_credentials wsX8_credentials ({ frames := 1, cells := 0, slots := 0, locals := 22 }) D (zTy cI cJ cZ) [.ref (a8 0)] (zwX8 cI cJ cZ a8 S V) (some (.int u.1)) (zwX8 cI cJ cZ a8 u.2 V) := by
  refine z_body (cc := cX8_credentials) (maxL := 1) (rty := (some .int)) (own := RX8) (lv := [(0, .ref (a8 0))]) (by decide +kernel) rfl rfl (Nat.le_of_ble_eq_true rfl) rfl (fun p e s m args below meth c A C => ?_)
  refine z_aload_n C dX8_credentials_0 rfl 0 rfl ?_
  refine z_iconst (v := 0) C dX8_credentials_1 (by decide) ?_
  refine z_put (ws' := (zwX8 cI cJ cZ a8 (zs S 0 0) V)) (ref := "SecretBrokerModel") (ty := .int) C hX8_credentials_X8 tyX8 tyX8_ok nmX8 0 rfl rfl 0 (by decide) kX8_credentials_88 (fun _ h9 => h9) rfl (by decide +kernel) rfl rfl (Nat.le_of_ble_eq_true rfl) dX8_credentials_2 (zs_val S 0 0) (zf_X8_0 cI cJ cZ a8 S V 0) ?_
  refine z_aload_n C dX8_credentials_5 rfl 0 rfl ?_
  obtain ⟨r1, er1, hF⟩ := zbd hF
  refine z_callV (n := 0) (As := []) (ws' := (zwX8 cI cJ cZ a8 (zs S 0 0) V)) C (c_X8_manyCredentials l D cI cJ cZ a8 (zs S 0 0) V r1 er1) gX8_credentials_X8_manyCredentials rfl rfl rfl (by decide +kernel) ⟨Nat.le_of_ble_eq_true rfl, Nat.le_of_ble_eq_true rfl⟩ ⟨Nat.zero_le _, Nat.zero_le _⟩ 0 rfl rfl [] [] rfl rfl rfl rfl (Nat.le_of_ble_eq_true rfl) dX8_credentials_6 ?_
  have hu := Option.some.inj hF
  subst hu
  exact z_iret C dX8_credentials_9 rfl rfl
theorem kX8_credentialsOf_152 : Cond.fieldLink RX8 152 "SecretBrokerModel" "given" "I" ∈ wsX8_credentialsOf := by decide +kernel
theorem kX8_credentialsOf_57 : Cond.fieldLink RX8 57 "SecretBrokerModel" "works" "[Z" ∈ wsX8_credentialsOf := by decide +kernel
theorem kX8_credentialsOf_60 : Cond.fieldLink RX8 60 "SecretBrokerModel" "owner" "[I" ∈ wsX8_credentialsOf := by decide +kernel
theorem hX8_credentialsOf_X8 : ∀ w ∈ wsX80, w ∈ wsX8_credentialsOf := by decide +kernel
set_option maxHeartbeats 4000000 in
set_option maxRecDepth 100000 in
theorem c_X8_credentialsOf_j4 (l : Launch) (D : va_G) (cI cJ cZ : ClassId) (a8 : Nat → Nat) (S : SS) (V : SL) (u : Int32 × SS) {p : Program} {e : Env} {s : State} {m : MethodId} {args : Array Value} {below : List Frame} {meth : Method} {c : Code} {A : Nat → Prop} (C : zC p s m args meth c cX8_credentialsOf 4 (some .int) RX8 wsX8_credentialsOf D (zTy cI cJ cZ) A s.heap) : ∀ (n : Nat) (Sc : SS) (v1 : Int32) (v2 : Int32) (v3 : Int32), f_X8_credentialsOf_4 n Sc v1 v2 v3 = some u → zW p l e { frames := 2, cells := 0, slots := 0, locals := 42 } s m args below meth c 4 D A s.heap 0 0 (MQ below (zQ D (zTy cI cJ cZ) (some (.int u.1)) (zwX8 cI cJ cZ a8 u.2 V) A) args s 0 0 A) (zwX8 cI cJ cZ a8 Sc V) [(0, .ref (a8 0)), (1, .int v1), (2, .int v2), (3, .int v3)] 4 [] := by
  intro n
  induction n with
  | zero => intro Sc v1 v2 v3 hF; exact absurd (show none = some u from hF) (fun q => nomatch q)
  | succ n ih =>
    intro Sc v1 v2 v3 hF
    refine z_aload_n C dX8_credentialsOf_4 rfl 0 rfl ?_
    refine z_iload_n C dX8_credentialsOf_5 rfl 1 rfl ?_
    obtain ⟨r1, er1, hF⟩ := zbd hF
    refine z_callV (n := 1) (As := [.int v1]) (ws' := (zwX8 cI cJ cZ a8 r1.2 V)) C (c_X8_asks l D cI cJ cZ a8 Sc V v1 r1 er1) gX8_credentialsOf_X8_asks rfl rfl rfl (by decide +kernel) ⟨Nat.le_of_ble_eq_true rfl, Nat.le_of_ble_eq_true rfl⟩ ⟨Nat.zero_le _, Nat.zero_le _⟩ 0 rfl rfl [] [] rfl rfl rfl rfl (Nat.le_of_ble_eq_true rfl) dX8_credentialsOf_6 ?_
    refine z_if_eq (tgt := 53) C dX8_credentialsOf_9 (by decide) (fun c2 => ?_) (fun c2 => ?_)
    · have hF := zif hF c2
      refine z_iload_n C dX8_credentialsOf_53 rfl 2 rfl ?_
      have hu := Option.some.inj hF
      subst hu
      exact z_iret C dX8_credentialsOf_54 rfl rfl
    · have hF := zelse hF c2
      refine z_iload_n C dX8_credentialsOf_12 rfl 3 rfl ?_
      refine z_aload_n C dX8_credentialsOf_13 rfl 0 rfl ?_
      refine z_get (ref := "SecretBrokerModel") (v := .int (r1.2 19 0)) C hX8_credentialsOf_X8 0 rfl rfl 19 (by decide) kX8_credentialsOf_152 (fun _ h9 => h9) rfl dX8_credentialsOf_14 ?_
      refine z_icmp_ge (tgt := 53) C dX8_credentialsOf_17 (by decide) (fun c3 => ?_) (fun c3 => ?_)
      · have hF := zif hF c3
        refine z_iload_n C dX8_credentialsOf_53 rfl 2 rfl ?_
        have hu := Option.some.inj hF
        subst hu
        exact z_iret C dX8_credentialsOf_54 rfl rfl
      · have hF := zelse hF c3
        refine z_iload_n C dX8_credentialsOf_20 rfl 2 rfl ?_
        refine z_aload_n C dX8_credentialsOf_21 rfl 0 rfl ?_
        refine z_get (ref := "SecretBrokerModel") (v := .ref (a8 15)) C hX8_credentialsOf_X8 0 rfl rfl 20 (by decide) kX8_credentialsOf_57 (fun _ h9 => h9) rfl dX8_credentialsOf_22 ?_
        refine z_iload_n C dX8_credentialsOf_25 rfl 3 rfl ?_
        obtain ⟨g4, hF⟩ := zix_some hF
        refine z_zald (v := ((r1.2 20) v3.toNatClampNeg)) C g4 15 rfl rfl rfl dX8_credentialsOf_26 ?_
        refine z_if_eq (tgt := 44) C dX8_credentialsOf_27 (by decide) (fun c5 => ?_) (fun c5 => ?_)
        · have hF := zif hF c5
          refine z_iconst (v := 0) C dX8_credentialsOf_44 (by decide) ?_
          refine z_iadd C dX8_credentialsOf_45 ?_
          refine z_istore_n (lv' := [(2, .int (v2 + 0)), (0, .ref (a8 0)), (1, .int v1), (3, .int v3)]) C dX8_credentialsOf_46 rfl (by decide) rfl ?_
          refine z_iinc (v := (v3 + 1)) (lv' := [(3, .int (v3 + 1)), (2, .int (v2 + 0)), (0, .ref (a8 0)), (1, .int v1)]) C dX8_credentialsOf_47 3 rfl rfl (by decide) rfl ?_
          refine z_goto (tgt := 4) C dX8_credentialsOf_50 (by decide) ?_
          exact z_sub C [2, 3, 1, 0] rfl (ih r1.2 v1 (v2 + 0) (v3 + 1) hF)
        · have hF := zelse hF c5
          refine z_aload_n C dX8_credentialsOf_30 rfl 0 rfl ?_
          refine z_get (ref := "SecretBrokerModel") (v := .ref (a8 16)) C hX8_credentialsOf_X8 0 rfl rfl 21 (by decide) kX8_credentialsOf_60 (fun _ h9 => h9) rfl dX8_credentialsOf_31 ?_
          refine z_iload_n C dX8_credentialsOf_34 rfl 3 rfl ?_
          obtain ⟨g6, hF⟩ := zix_some hF
          refine z_iald (v := ((r1.2 21) v3.toNatClampNeg)) C g6 16 rfl rfl rfl dX8_credentialsOf_35 ?_
          refine z_iload_n C dX8_credentialsOf_36 rfl 1 rfl ?_
          refine z_icmp_ne (tgt := 44) C dX8_credentialsOf_37 (by decide) (fun c7 => ?_) (fun c7 => ?_)
          · have hF := zelse hF c7
            refine z_iconst (v := 0) C dX8_credentialsOf_44 (by decide) ?_
            refine z_iadd C dX8_credentialsOf_45 ?_
            refine z_istore_n (lv' := [(2, .int (v2 + 0)), (0, .ref (a8 0)), (1, .int v1), (3, .int v3)]) C dX8_credentialsOf_46 rfl (by decide) rfl ?_
            refine z_iinc (v := (v3 + 1)) (lv' := [(3, .int (v3 + 1)), (2, .int (v2 + 0)), (0, .ref (a8 0)), (1, .int v1)]) C dX8_credentialsOf_47 3 rfl rfl (by decide) rfl ?_
            refine z_goto (tgt := 4) C dX8_credentialsOf_50 (by decide) ?_
            exact z_sub C [2, 3, 1, 0] rfl (ih r1.2 v1 (v2 + 0) (v3 + 1) hF)
          · have hF := zif hF c7
            refine z_iconst (v := 1) C dX8_credentialsOf_40 (by decide) ?_
            refine z_goto (tgt := 45) C dX8_credentialsOf_41 (by decide) ?_
            refine z_iadd C dX8_credentialsOf_45 ?_
            refine z_istore_n (lv' := [(2, .int (v2 + 1)), (0, .ref (a8 0)), (1, .int v1), (3, .int v3)]) C dX8_credentialsOf_46 rfl (by decide) rfl ?_
            refine z_iinc (v := (v3 + 1)) (lv' := [(3, .int (v3 + 1)), (2, .int (v2 + 1)), (0, .ref (a8 0)), (1, .int v1)]) C dX8_credentialsOf_47 3 rfl rfl (by decide) rfl ?_
            refine z_goto (tgt := 4) C dX8_credentialsOf_50 (by decide) ?_
            exact z_sub C [2, 3, 1, 0] rfl (ih r1.2 v1 (v2 + 1) (v3 + 1) hF)
set_option maxHeartbeats 4000000 in
set_option maxRecDepth 100000 in
theorem c_X8_credentialsOf (l : Launch) (D : va_G) (cI cJ cZ : ClassId) (a8 : Nat → Nat) (S : SS) (V : SL) (x1 : Int32) (u : Int32 × SS) (hF : f_X8_credentialsOf S x1 = some u) : zM l yX8_credentialsOf wsX8_credentialsOf ({ frames := 2, cells := 0, slots := 0, locals := 42 }) D (zTy cI cJ cZ) [.ref (a8 0), .int x1] (zwX8 cI cJ cZ a8 S V) (some (.int u.1)) (zwX8 cI cJ cZ a8 u.2 V) := by
  refine z_body (cc := cX8_credentialsOf) (maxL := 4) (rty := (some .int)) (own := RX8) (lv := [(0, .ref (a8 0)), (1, .int x1)]) (by decide +kernel) rfl rfl (Nat.le_of_ble_eq_true rfl) rfl (fun p e s m args below meth c A C => ?_)
  refine z_iconst (v := 0) C dX8_credentialsOf_0 (by decide) ?_
  refine z_istore_n (lv' := [(2, .int 0), (0, .ref (a8 0)), (1, .int x1)]) C dX8_credentialsOf_1 rfl (by decide) rfl ?_
  refine z_iconst (v := 0) C dX8_credentialsOf_2 (by decide) ?_
  refine z_istore_n (lv' := [(3, .int 0), (2, .int 0), (0, .ref (a8 0)), (1, .int x1)]) C dX8_credentialsOf_3 rfl (by decide) rfl ?_
  exact z_sub C [2, 3, 1, 0] rfl (c_X8_credentialsOf_j4 l D cI cJ cZ a8 S V u C 600 S x1 0 0 hF)
theorem kX8_pass_88 : Cond.fieldLink RX8 88 "SecretBrokerModel" "thrown" "I" ∈ wsX8_pass := by decide +kernel
theorem kX8_pass_104 : Cond.fieldLink RX8 104 "SecretBrokerModel" "time" "I" ∈ wsX8_pass := by decide +kernel
theorem hX8_pass_X8 : ∀ w ∈ wsX80, w ∈ wsX8_pass := by decide +kernel
set_option maxHeartbeats 4000000 in
set_option maxRecDepth 100000 in
theorem c_X8_pass_j18 (l : Launch) (D : va_G) (cI cJ cZ : ClassId) (a8 : Nat → Nat) (S : SS) (V : SL) (u : Int32 × SS × SL) {p : Program} {e : Env} {s : State} {m : MethodId} {args : Array Value} {below : List Frame} {meth : Method} {c : Code} {A : Nat → Prop} (C : zC p s m args meth c cX8_pass 3 (some .int) RX8 wsX8_pass D (zTy cI cJ cZ) A s.heap) : ∀ (Sc : SS) (Vc : SL) (v1 : Int32) (s1 : Int32), f_X8_pass_18 Sc Vc v1 s1 = some u → zW p l e { frames := 1, cells := 0, slots := 0, locals := 25 } s m args below meth c 3 D A s.heap 0 0 (MQ below (zQ D (zTy cI cJ cZ) (some (.int u.1)) (zwX8 cI cJ cZ a8 u.2.1 u.2.2) A) args s 0 0 A) (zwX8 cI cJ cZ a8 Sc Vc) [(0, .ref (a8 0)), (1, .int v1)] 18 [.int s1, .ref (a8 0)] := by
  intro Sc Vc v1 s1 hF
  refine z_put (ws' := (zwX8 cI cJ cZ a8 (zs Sc 0 s1) Vc)) (ref := "SecretBrokerModel") (ty := .int) C hX8_pass_X8 tyX8 tyX8_ok nmX8 0 rfl rfl 0 (by decide) kX8_pass_88 (fun _ h9 => h9) rfl (by decide +kernel) rfl rfl (Nat.le_of_ble_eq_true rfl) dX8_pass_18 (zs_val Sc 0 s1) (zf_X8_0 cI cJ cZ a8 Sc Vc s1) ?_
  refine z_aload_n C dX8_pass_21 rfl 0 rfl ?_
  refine z_get (ref := "SecretBrokerModel") (v := .int ((zs Sc 0 s1) 0 0)) C hX8_pass_X8 0 rfl rfl 0 (by decide) kX8_pass_88 (fun _ h9 => h9) rfl dX8_pass_22 ?_
  refine z_if_le (tgt := 30) C dX8_pass_25 (by decide) (fun c2 => ?_) (fun c2 => ?_)
  · have hF := zif hF c2
    refine z_aload_n C dX8_pass_30 rfl 0 rfl ?_
    refine z_dup C dX8_pass_31 rfl ?_
    refine z_get (ref := "SecretBrokerModel") (v := .int (Sc 1 0)) C hX8_pass_X8 0 rfl rfl 1 (by decide) kX8_pass_104 (fun _ h9 => h9) rfl dX8_pass_32 ?_
    refine z_iload_n C dX8_pass_35 rfl 1 rfl ?_
    refine z_iadd C dX8_pass_36 ?_
    refine z_put (ws' := (zwX8 cI cJ cZ a8 (zs (zs Sc 0 s1) 1 ((Sc 1 0) + v1)) Vc)) (ref := "SecretBrokerModel") (ty := .int) C hX8_pass_X8 tyX8 tyX8_ok nmX8 0 rfl rfl 1 (by decide) kX8_pass_104 (fun _ h9 => h9) rfl (by decide +kernel) rfl rfl (Nat.le_of_ble_eq_true rfl) dX8_pass_37 (zs_val (zs Sc 0 s1) 1 ((Sc 1 0) + v1)) (zf_X8_1 cI cJ cZ a8 (zs Sc 0 s1) Vc ((Sc 1 0) + v1)) ?_
    refine z_aload_n C dX8_pass_40 rfl 0 rfl ?_
    obtain ⟨r3, er3, hF⟩ := zbd hF
    refine z_callV (n := 0) (As := []) (ws' := (zwX8 cI cJ cZ a8 r3.2 Vc)) C (c_X8_ceases l D cI cJ cZ a8 (zs (zs Sc 0 s1) 1 ((Sc 1 0) + v1)) Vc r3 er3) gX8_pass_X8_ceases rfl rfl rfl (by decide +kernel) ⟨Nat.le_of_ble_eq_true rfl, Nat.le_of_ble_eq_true rfl⟩ ⟨Nat.zero_le _, Nat.zero_le _⟩ 0 rfl rfl [] [] rfl rfl rfl rfl (Nat.le_of_ble_eq_true rfl) dX8_pass_41 ?_
    refine z_istore_n (lv' := [(2, .int r3.1), (0, .ref (a8 0)), (1, .int v1)]) C dX8_pass_44 rfl (by decide) rfl ?_
    refine z_iload_n C dX8_pass_45 rfl 0 rfl ?_
    refine z_if_le (tgt := 56) C dX8_pass_46 (by decide) (fun c4 => ?_) (fun c4 => ?_)
    · have hF := zif hF c4
      refine z_iload_n C dX8_pass_56 rfl 0 rfl ?_
      have hu := Option.some.inj hF
      subst hu
      exact z_iret C dX8_pass_57 rfl rfl
    · have hF := zelse hF c4
      refine z_aload_n C dX8_pass_49 rfl 1 rfl ?_
      refine z_iconst (v := 5) C dX8_pass_50 (by decide) ?_
      refine z_iconst (v := 0) C dX8_pass_51 (by decide) ?_
      refine z_iload_n C dX8_pass_52 rfl 0 rfl ?_
      obtain ⟨r5, er5, hF⟩ := zbd hF
      refine z_callV (n := 3) (As := [.int 5, .int 0, .int r3.1]) (ws' := (zwX8 cI cJ cZ a8 r5.1 r5.2)) C (c_X8_writes l D cI cJ cZ a8 r3.2 Vc 5 0 r3.1 r5 er5) gX8_pass_X8_writes rfl rfl rfl (by decide +kernel) ⟨Nat.le_of_ble_eq_true rfl, Nat.le_of_ble_eq_true rfl⟩ ⟨Nat.zero_le _, Nat.zero_le _⟩ 0 rfl rfl [] [] rfl rfl rfl rfl (Nat.le_of_ble_eq_true rfl) dX8_pass_53 ?_
      refine z_iload_n C dX8_pass_56 rfl 0 rfl ?_
      have hu := Option.some.inj hF
      subst hu
      exact z_iret C dX8_pass_57 rfl rfl
  · have hF := zelse hF c2
    refine z_iconst (v := 0) C dX8_pass_28 (by decide) ?_
    have hu := Option.some.inj hF
    subst hu
    exact z_iret C dX8_pass_29 rfl rfl
set_option maxHeartbeats 4000000 in
set_option maxRecDepth 100000 in
theorem c_X8_pass_j13 (l : Launch) (D : va_G) (cI cJ cZ : ClassId) (a8 : Nat → Nat) (S : SS) (V : SL) (u : Int32 × SS × SL) {p : Program} {e : Env} {s : State} {m : MethodId} {args : Array Value} {below : List Frame} {meth : Method} {c : Code} {A : Nat → Prop} (C : zC p s m args meth c cX8_pass 3 (some .int) RX8 wsX8_pass D (zTy cI cJ cZ) A s.heap) : ∀ (Sc : SS) (Vc : SL) (v1 : Int32), f_X8_pass_13 Sc Vc v1 = some u → zW p l e { frames := 1, cells := 0, slots := 0, locals := 25 } s m args below meth c 3 D A s.heap 0 0 (MQ below (zQ D (zTy cI cJ cZ) (some (.int u.1)) (zwX8 cI cJ cZ a8 u.2.1 u.2.2) A) args s 0 0 A) (zwX8 cI cJ cZ a8 Sc Vc) [(0, .ref (a8 0)), (1, .int v1)] 13 [.ref (a8 0)] := by
  intro Sc Vc v1 hF
  refine z_iconst (v := 1) C dX8_pass_13 (by decide) ?_
  refine z_goto (tgt := 18) C dX8_pass_14 (by decide) ?_
  exact c_X8_pass_j18 l D cI cJ cZ a8 S V u C Sc Vc v1 1 hF
set_option maxHeartbeats 4000000 in
set_option maxRecDepth 100000 in
theorem c_X8_pass (l : Launch) (D : va_G) (cI cJ cZ : ClassId) (a8 : Nat → Nat) (S : SS) (V : SL) (x1 : Int32) (u : Int32 × SS × SL) (hF : f_X8_pass S V x1 = some u) : zM l yX8_pass wsX8_pass ({ frames := 1, cells := 0, slots := 0, locals := 25 }) D (zTy cI cJ cZ) [.ref (a8 0), .int x1] (zwX8 cI cJ cZ a8 S V) (some (.int u.1)) (zwX8 cI cJ cZ a8 u.2.1 u.2.2) := by
  refine z_body (cc := cX8_pass) (maxL := 3) (rty := (some .int)) (own := RX8) (lv := [(0, .ref (a8 0)), (1, .int x1)]) (by decide +kernel) rfl rfl (Nat.le_of_ble_eq_true rfl) rfl (fun p e s m args below meth c A C => ?_)
  refine z_aload_n C dX8_pass_0 rfl 0 rfl ?_
  refine z_iload_n C dX8_pass_1 rfl 1 rfl ?_
  refine z_iconst (v := 1) C dX8_pass_2 (by decide) ?_
  refine z_icmp_lt (tgt := 13) C dX8_pass_3 (by decide) (fun c1 => ?_) (fun c1 => ?_)
  · have hF := zif hF c1
    exact c_X8_pass_j13 l D cI cJ cZ a8 S V u C S V x1 hF
  · have hF := zelse hF c1
    refine z_iload_n C dX8_pass_6 rfl 1 rfl ?_
    refine z_sipush (v := 1000) C dX8_pass_7 (by decide) ?_
    refine z_icmp_le (tgt := 17) C dX8_pass_10 (by decide) (fun c6 => ?_) (fun c6 => ?_)
    · have hF := zif hF c6
      refine z_iconst (v := 0) C dX8_pass_17 (by decide) ?_
      exact c_X8_pass_j18 l D cI cJ cZ a8 S V u C S V x1 0 hF
    · have hF := zelse hF c6
      exact c_X8_pass_j13 l D cI cJ cZ a8 S V u C S V x1 hF
theorem kX8_time_88 : Cond.fieldLink RX8 88 "SecretBrokerModel" "thrown" "I" ∈ wsX8_time := by decide +kernel
theorem kX8_time_104 : Cond.fieldLink RX8 104 "SecretBrokerModel" "time" "I" ∈ wsX8_time := by decide +kernel
theorem hX8_time_X8 : ∀ w ∈ wsX80, w ∈ wsX8_time := by decide +kernel
set_option maxHeartbeats 4000000 in
set_option maxRecDepth 100000 in
theorem c_X8_time (l : Launch) (D : va_G) (cI cJ cZ : ClassId) (a8 : Nat → Nat) (S : SS) (V : SL) (u : Int32 × SS) (hF : f_X8_time S = some u) : zM l yX8_time wsX8_time ({ frames := 0, cells := 0, slots := 0, locals := 0 }) D (zTy cI cJ cZ) [.ref (a8 0)] (zwX8 cI cJ cZ a8 S V) (some (.int u.1)) (zwX8 cI cJ cZ a8 u.2 V) := by
  refine z_body (cc := cX8_time) (maxL := 1) (rty := (some .int)) (own := RX8) (lv := [(0, .ref (a8 0))]) (by decide +kernel) rfl rfl (Nat.le_of_ble_eq_true rfl) rfl (fun p e s m args below meth c A C => ?_)
  refine z_aload_n C dX8_time_0 rfl 0 rfl ?_
  refine z_iconst (v := 0) C dX8_time_1 (by decide) ?_
  refine z_put (ws' := (zwX8 cI cJ cZ a8 (zs S 0 0) V)) (ref := "SecretBrokerModel") (ty := .int) C hX8_time_X8 tyX8 tyX8_ok nmX8 0 rfl rfl 0 (by decide) kX8_time_88 (fun _ h9 => h9) rfl (by decide +kernel) rfl rfl (Nat.le_of_ble_eq_true rfl) dX8_time_2 (zs_val S 0 0) (zf_X8_0 cI cJ cZ a8 S V 0) ?_
  refine z_aload_n C dX8_time_5 rfl 0 rfl ?_
  refine z_get (ref := "SecretBrokerModel") (v := .int (S 1 0)) C hX8_time_X8 0 rfl rfl 1 (by decide) kX8_time_104 (fun _ h9 => h9) rfl dX8_time_6 ?_
  have hu := Option.some.inj hF
  subst hu
  exact z_iret C dX8_time_9 rfl rfl
theorem kX8_nextEnd_88 : Cond.fieldLink RX8 88 "SecretBrokerModel" "thrown" "I" ∈ wsX8_nextEnd := by decide +kernel
theorem kX8_nextEnd_32 : Cond.fieldLink RX8 32 "SecretBrokerModel" "made" "I" ∈ wsX8_nextEnd := by decide +kernel
theorem kX8_nextEnd_152 : Cond.fieldLink RX8 152 "SecretBrokerModel" "given" "I" ∈ wsX8_nextEnd := by decide +kernel
theorem kX8_nextEnd_57 : Cond.fieldLink RX8 57 "SecretBrokerModel" "works" "[Z" ∈ wsX8_nextEnd := by decide +kernel
theorem kX8_nextEnd_69 : Cond.fieldLink RX8 69 "SecretBrokerModel" "until" "[I" ∈ wsX8_nextEnd := by decide +kernel
theorem kX8_nextEnd_36 : Cond.fieldLink RX8 36 "SecretBrokerModel" "isAlive" "[Z" ∈ wsX8_nextEnd := by decide +kernel
theorem kX8_nextEnd_48 : Cond.fieldLink RX8 48 "SecretBrokerModel" "end" "[I" ∈ wsX8_nextEnd := by decide +kernel
theorem hX8_nextEnd_X8 : ∀ w ∈ wsX80, w ∈ wsX8_nextEnd := by decide +kernel
set_option maxHeartbeats 4000000 in
set_option maxRecDepth 100000 in
theorem c_X8_nextEnd_j60 (l : Launch) (D : va_G) (cI cJ cZ : ClassId) (a8 : Nat → Nat) (S : SS) (V : SL) (u : Int32 × SS) {p : Program} {e : Env} {s : State} {m : MethodId} {args : Array Value} {below : List Frame} {meth : Method} {c : Code} {A : Nat → Prop} (C : zC p s m args meth c cX8_nextEnd 3 (some .int) RX8 wsX8_nextEnd D (zTy cI cJ cZ) A s.heap) : ∀ (n : Nat) (Sc : SS) (v1 : Int32) (v2 : Int32), f_X8_nextEnd_60 n Sc v1 v2 = some u → zW p l e { frames := 0, cells := 0, slots := 0, locals := 0 } s m args below meth c 3 D A s.heap 0 0 (MQ below (zQ D (zTy cI cJ cZ) (some (.int u.1)) (zwX8 cI cJ cZ a8 u.2 V) A) args s 0 0 A) (zwX8 cI cJ cZ a8 Sc V) [(0, .ref (a8 0)), (1, .int v1), (2, .int v2)] 60 [] := by
  intro n
  induction n with
  | zero => intro Sc v1 v2 hF; exact absurd (show none = some u from hF) (fun q => nomatch q)
  | succ n ih =>
    intro Sc v1 v2 hF
    refine z_iload_n C dX8_nextEnd_60 rfl 2 rfl ?_
    refine z_aload_n C dX8_nextEnd_61 rfl 0 rfl ?_
    refine z_get (ref := "SecretBrokerModel") (v := .int (Sc 19 0)) C hX8_nextEnd_X8 0 rfl rfl 19 (by decide) kX8_nextEnd_152 (fun _ h9 => h9) rfl dX8_nextEnd_62 ?_
    refine z_icmp_ge (tgt := 109) C dX8_nextEnd_65 (by decide) (fun c2 => ?_) (fun c2 => ?_)
    · have hF := zif hF c2
      refine z_iload_n C dX8_nextEnd_109 rfl 1 rfl ?_
      have hu := Option.some.inj hF
      subst hu
      exact z_iret C dX8_nextEnd_110 rfl rfl
    · have hF := zelse hF c2
      refine z_aload_n C dX8_nextEnd_68 rfl 0 rfl ?_
      refine z_get (ref := "SecretBrokerModel") (v := .ref (a8 15)) C hX8_nextEnd_X8 0 rfl rfl 20 (by decide) kX8_nextEnd_57 (fun _ h9 => h9) rfl dX8_nextEnd_69 ?_
      refine z_iload_n C dX8_nextEnd_72 rfl 2 rfl ?_
      obtain ⟨g3, hF⟩ := zix_some hF
      refine z_zald (v := ((Sc 20) v2.toNatClampNeg)) C g3 15 rfl rfl rfl dX8_nextEnd_73 ?_
      refine z_if_eq (tgt := 101) C dX8_nextEnd_74 (by decide) (fun c4 => ?_) (fun c4 => ?_)
      · have hF := zif hF c4
        refine z_iload_n C dX8_nextEnd_101 rfl 1 rfl ?_
        refine z_istore_n (lv' := [(1, .int v1), (0, .ref (a8 0)), (2, .int v2)]) C dX8_nextEnd_102 rfl (by decide) rfl ?_
        refine z_iinc (v := (v2 + 1)) (lv' := [(2, .int (v2 + 1)), (1, .int v1), (0, .ref (a8 0))]) C dX8_nextEnd_103 2 rfl rfl (by decide) rfl ?_
        refine z_goto (tgt := 60) C dX8_nextEnd_106 (by decide) ?_
        exact z_sub C [2, 1, 0] rfl (ih Sc v1 (v2 + 1) hF)
      · have hF := zelse hF c4
        refine z_iload_n C dX8_nextEnd_77 rfl 1 rfl ?_
        refine z_iconst (v := (-1)) C dX8_nextEnd_78 (by decide) ?_
        refine z_icmp_eq (tgt := 92) C dX8_nextEnd_79 (by decide) (fun c5 => ?_) (fun c5 => ?_)
        · have hF := zif hF c5
          refine z_aload_n C dX8_nextEnd_92 rfl 0 rfl ?_
          refine z_get (ref := "SecretBrokerModel") (v := .ref (a8 19)) C hX8_nextEnd_X8 0 rfl rfl 24 (by decide) kX8_nextEnd_69 (fun _ h9 => h9) rfl dX8_nextEnd_93 ?_
          refine z_iload_n C dX8_nextEnd_96 rfl 2 rfl ?_
          obtain ⟨g6, hF⟩ := zix_some hF
          refine z_iald (v := ((Sc 24) v2.toNatClampNeg)) C g6 19 rfl rfl rfl dX8_nextEnd_97 ?_
          refine z_goto (tgt := 102) C dX8_nextEnd_98 (by decide) ?_
          refine z_istore_n (lv' := [(1, .int ((Sc 24) v2.toNatClampNeg)), (0, .ref (a8 0)), (2, .int v2)]) C dX8_nextEnd_102 rfl (by decide) rfl ?_
          refine z_iinc (v := (v2 + 1)) (lv' := [(2, .int (v2 + 1)), (1, .int ((Sc 24) v2.toNatClampNeg)), (0, .ref (a8 0))]) C dX8_nextEnd_103 2 rfl rfl (by decide) rfl ?_
          refine z_goto (tgt := 60) C dX8_nextEnd_106 (by decide) ?_
          exact z_sub C [2, 1, 0] rfl (ih Sc ((Sc 24) v2.toNatClampNeg) (v2 + 1) hF)
        · have hF := zelse hF c5
          refine z_aload_n C dX8_nextEnd_82 rfl 0 rfl ?_
          refine z_get (ref := "SecretBrokerModel") (v := .ref (a8 19)) C hX8_nextEnd_X8 0 rfl rfl 24 (by decide) kX8_nextEnd_69 (fun _ h9 => h9) rfl dX8_nextEnd_83 ?_
          refine z_iload_n C dX8_nextEnd_86 rfl 2 rfl ?_
          obtain ⟨g7, hF⟩ := zix_some hF
          refine z_iald (v := ((Sc 24) v2.toNatClampNeg)) C g7 19 rfl rfl rfl dX8_nextEnd_87 ?_
          refine z_iload_n C dX8_nextEnd_88 rfl 1 rfl ?_
          refine z_icmp_ge (tgt := 101) C dX8_nextEnd_89 (by decide) (fun c8 => ?_) (fun c8 => ?_)
          · have hF := zif hF c8
            refine z_iload_n C dX8_nextEnd_101 rfl 1 rfl ?_
            refine z_istore_n (lv' := [(1, .int v1), (0, .ref (a8 0)), (2, .int v2)]) C dX8_nextEnd_102 rfl (by decide) rfl ?_
            refine z_iinc (v := (v2 + 1)) (lv' := [(2, .int (v2 + 1)), (1, .int v1), (0, .ref (a8 0))]) C dX8_nextEnd_103 2 rfl rfl (by decide) rfl ?_
            refine z_goto (tgt := 60) C dX8_nextEnd_106 (by decide) ?_
            exact z_sub C [2, 1, 0] rfl (ih Sc v1 (v2 + 1) hF)
          · have hF := zelse hF c8
            refine z_aload_n C dX8_nextEnd_92 rfl 0 rfl ?_
            refine z_get (ref := "SecretBrokerModel") (v := .ref (a8 19)) C hX8_nextEnd_X8 0 rfl rfl 24 (by decide) kX8_nextEnd_69 (fun _ h9 => h9) rfl dX8_nextEnd_93 ?_
            refine z_iload_n C dX8_nextEnd_96 rfl 2 rfl ?_
            obtain ⟨g9, hF⟩ := zix_some hF
            refine z_iald (v := ((Sc 24) v2.toNatClampNeg)) C g9 19 rfl rfl rfl dX8_nextEnd_97 ?_
            refine z_goto (tgt := 102) C dX8_nextEnd_98 (by decide) ?_
            refine z_istore_n (lv' := [(1, .int ((Sc 24) v2.toNatClampNeg)), (0, .ref (a8 0)), (2, .int v2)]) C dX8_nextEnd_102 rfl (by decide) rfl ?_
            refine z_iinc (v := (v2 + 1)) (lv' := [(2, .int (v2 + 1)), (1, .int ((Sc 24) v2.toNatClampNeg)), (0, .ref (a8 0))]) C dX8_nextEnd_103 2 rfl rfl (by decide) rfl ?_
            refine z_goto (tgt := 60) C dX8_nextEnd_106 (by decide) ?_
            exact z_sub C [2, 1, 0] rfl (ih Sc ((Sc 24) v2.toNatClampNeg) (v2 + 1) hF)
set_option maxHeartbeats 4000000 in
set_option maxRecDepth 100000 in
theorem c_X8_nextEnd_j9 (l : Launch) (D : va_G) (cI cJ cZ : ClassId) (a8 : Nat → Nat) (S : SS) (V : SL) (u : Int32 × SS) {p : Program} {e : Env} {s : State} {m : MethodId} {args : Array Value} {below : List Frame} {meth : Method} {c : Code} {A : Nat → Prop} (C : zC p s m args meth c cX8_nextEnd 3 (some .int) RX8 wsX8_nextEnd D (zTy cI cJ cZ) A s.heap) : ∀ (n : Nat) (Sc : SS) (v1 : Int32) (v2 : Int32), f_X8_nextEnd_9 n Sc v1 v2 = some u → zW p l e { frames := 0, cells := 0, slots := 0, locals := 0 } s m args below meth c 3 D A s.heap 0 0 (MQ below (zQ D (zTy cI cJ cZ) (some (.int u.1)) (zwX8 cI cJ cZ a8 u.2 V) A) args s 0 0 A) (zwX8 cI cJ cZ a8 Sc V) [(0, .ref (a8 0)), (1, .int v1), (2, .int v2)] 9 [] := by
  intro n
  induction n with
  | zero => intro Sc v1 v2 hF; exact absurd (show none = some u from hF) (fun q => nomatch q)
  | succ n ih =>
    intro Sc v1 v2 hF
    refine z_iload_n C dX8_nextEnd_9 rfl 2 rfl ?_
    refine z_aload_n C dX8_nextEnd_10 rfl 0 rfl ?_
    refine z_get (ref := "SecretBrokerModel") (v := .int (Sc 11 0)) C hX8_nextEnd_X8 0 rfl rfl 11 (by decide) kX8_nextEnd_32 (fun _ h9 => h9) rfl dX8_nextEnd_11 ?_
    refine z_icmp_ge (tgt := 58) C dX8_nextEnd_14 (by decide) (fun c1 => ?_) (fun c1 => ?_)
    · have hF := zif hF c1
      refine z_iconst (v := 0) C dX8_nextEnd_58 (by decide) ?_
      refine z_istore_n (lv' := [(2, .int 0), (0, .ref (a8 0)), (1, .int v1)]) C dX8_nextEnd_59 rfl (by decide) rfl ?_
      exact z_sub C [1, 2, 0] rfl (c_X8_nextEnd_j60 l D cI cJ cZ a8 S V u C 600 Sc v1 0 hF)
    · have hF := zelse hF c1
      refine z_aload_n C dX8_nextEnd_17 rfl 0 rfl ?_
      refine z_get (ref := "SecretBrokerModel") (v := .ref (a8 8)) C hX8_nextEnd_X8 0 rfl rfl 12 (by decide) kX8_nextEnd_36 (fun _ h9 => h9) rfl dX8_nextEnd_18 ?_
      refine z_iload_n C dX8_nextEnd_21 rfl 2 rfl ?_
      obtain ⟨g10, hF⟩ := zix_some hF
      refine z_zald (v := ((Sc 12) v2.toNatClampNeg)) C g10 8 rfl rfl rfl dX8_nextEnd_22 ?_
      refine z_if_eq (tgt := 50) C dX8_nextEnd_23 (by decide) (fun c11 => ?_) (fun c11 => ?_)
      · have hF := zif hF c11
        refine z_iload_n C dX8_nextEnd_50 rfl 1 rfl ?_
        refine z_istore_n (lv' := [(1, .int v1), (0, .ref (a8 0)), (2, .int v2)]) C dX8_nextEnd_51 rfl (by decide) rfl ?_
        refine z_iinc (v := (v2 + 1)) (lv' := [(2, .int (v2 + 1)), (1, .int v1), (0, .ref (a8 0))]) C dX8_nextEnd_52 2 rfl rfl (by decide) rfl ?_
        refine z_goto (tgt := 9) C dX8_nextEnd_55 (by decide) ?_
        exact z_sub C [2, 1, 0] rfl (ih Sc v1 (v2 + 1) hF)
      · have hF := zelse hF c11
        refine z_iload_n C dX8_nextEnd_26 rfl 1 rfl ?_
        refine z_iconst (v := (-1)) C dX8_nextEnd_27 (by decide) ?_
        refine z_icmp_eq (tgt := 41) C dX8_nextEnd_28 (by decide) (fun c12 => ?_) (fun c12 => ?_)
        · have hF := zif hF c12
          refine z_aload_n C dX8_nextEnd_41 rfl 0 rfl ?_
          refine z_get (ref := "SecretBrokerModel") (v := .ref (a8 12)) C hX8_nextEnd_X8 0 rfl rfl 16 (by decide) kX8_nextEnd_48 (fun _ h9 => h9) rfl dX8_nextEnd_42 ?_
          refine z_iload_n C dX8_nextEnd_45 rfl 2 rfl ?_
          obtain ⟨g13, hF⟩ := zix_some hF
          refine z_iald (v := ((Sc 16) v2.toNatClampNeg)) C g13 12 rfl rfl rfl dX8_nextEnd_46 ?_
          refine z_goto (tgt := 51) C dX8_nextEnd_47 (by decide) ?_
          refine z_istore_n (lv' := [(1, .int ((Sc 16) v2.toNatClampNeg)), (0, .ref (a8 0)), (2, .int v2)]) C dX8_nextEnd_51 rfl (by decide) rfl ?_
          refine z_iinc (v := (v2 + 1)) (lv' := [(2, .int (v2 + 1)), (1, .int ((Sc 16) v2.toNatClampNeg)), (0, .ref (a8 0))]) C dX8_nextEnd_52 2 rfl rfl (by decide) rfl ?_
          refine z_goto (tgt := 9) C dX8_nextEnd_55 (by decide) ?_
          exact z_sub C [2, 1, 0] rfl (ih Sc ((Sc 16) v2.toNatClampNeg) (v2 + 1) hF)
        · have hF := zelse hF c12
          refine z_aload_n C dX8_nextEnd_31 rfl 0 rfl ?_
          refine z_get (ref := "SecretBrokerModel") (v := .ref (a8 12)) C hX8_nextEnd_X8 0 rfl rfl 16 (by decide) kX8_nextEnd_48 (fun _ h9 => h9) rfl dX8_nextEnd_32 ?_
          refine z_iload_n C dX8_nextEnd_35 rfl 2 rfl ?_
          obtain ⟨g14, hF⟩ := zix_some hF
          refine z_iald (v := ((Sc 16) v2.toNatClampNeg)) C g14 12 rfl rfl rfl dX8_nextEnd_36 ?_
          refine z_iload_n C dX8_nextEnd_37 rfl 1 rfl ?_
          refine z_icmp_ge (tgt := 50) C dX8_nextEnd_38 (by decide) (fun c15 => ?_) (fun c15 => ?_)
          · have hF := zif hF c15
            refine z_iload_n C dX8_nextEnd_50 rfl 1 rfl ?_
            refine z_istore_n (lv' := [(1, .int v1), (0, .ref (a8 0)), (2, .int v2)]) C dX8_nextEnd_51 rfl (by decide) rfl ?_
            refine z_iinc (v := (v2 + 1)) (lv' := [(2, .int (v2 + 1)), (1, .int v1), (0, .ref (a8 0))]) C dX8_nextEnd_52 2 rfl rfl (by decide) rfl ?_
            refine z_goto (tgt := 9) C dX8_nextEnd_55 (by decide) ?_
            exact z_sub C [2, 1, 0] rfl (ih Sc v1 (v2 + 1) hF)
          · have hF := zelse hF c15
            refine z_aload_n C dX8_nextEnd_41 rfl 0 rfl ?_
            refine z_get (ref := "SecretBrokerModel") (v := .ref (a8 12)) C hX8_nextEnd_X8 0 rfl rfl 16 (by decide) kX8_nextEnd_48 (fun _ h9 => h9) rfl dX8_nextEnd_42 ?_
            refine z_iload_n C dX8_nextEnd_45 rfl 2 rfl ?_
            obtain ⟨g16, hF⟩ := zix_some hF
            refine z_iald (v := ((Sc 16) v2.toNatClampNeg)) C g16 12 rfl rfl rfl dX8_nextEnd_46 ?_
            refine z_goto (tgt := 51) C dX8_nextEnd_47 (by decide) ?_
            refine z_istore_n (lv' := [(1, .int ((Sc 16) v2.toNatClampNeg)), (0, .ref (a8 0)), (2, .int v2)]) C dX8_nextEnd_51 rfl (by decide) rfl ?_
            refine z_iinc (v := (v2 + 1)) (lv' := [(2, .int (v2 + 1)), (1, .int ((Sc 16) v2.toNatClampNeg)), (0, .ref (a8 0))]) C dX8_nextEnd_52 2 rfl rfl (by decide) rfl ?_
            refine z_goto (tgt := 9) C dX8_nextEnd_55 (by decide) ?_
            exact z_sub C [2, 1, 0] rfl (ih Sc ((Sc 16) v2.toNatClampNeg) (v2 + 1) hF)
set_option maxHeartbeats 4000000 in
set_option maxRecDepth 100000 in
theorem c_X8_nextEnd (l : Launch) (D : va_G) (cI cJ cZ : ClassId) (a8 : Nat → Nat) (S : SS) (V : SL) (u : Int32 × SS) (hF : f_X8_nextEnd S = some u) : zM l yX8_nextEnd wsX8_nextEnd ({ frames := 0, cells := 0, slots := 0, locals := 0 }) D (zTy cI cJ cZ) [.ref (a8 0)] (zwX8 cI cJ cZ a8 S V) (some (.int u.1)) (zwX8 cI cJ cZ a8 u.2 V) := by
  refine z_body (cc := cX8_nextEnd) (maxL := 3) (rty := (some .int)) (own := RX8) (lv := [(0, .ref (a8 0))]) (by decide +kernel) rfl rfl (Nat.le_of_ble_eq_true rfl) rfl (fun p e s m args below meth c A C => ?_)
  refine z_aload_n C dX8_nextEnd_0 rfl 0 rfl ?_
  refine z_iconst (v := 0) C dX8_nextEnd_1 (by decide) ?_
  refine z_put (ws' := (zwX8 cI cJ cZ a8 (zs S 0 0) V)) (ref := "SecretBrokerModel") (ty := .int) C hX8_nextEnd_X8 tyX8 tyX8_ok nmX8 0 rfl rfl 0 (by decide) kX8_nextEnd_88 (fun _ h9 => h9) rfl (by decide +kernel) rfl rfl (Nat.le_of_ble_eq_true rfl) dX8_nextEnd_2 (zs_val S 0 0) (zf_X8_0 cI cJ cZ a8 S V 0) ?_
  refine z_iconst (v := (-1)) C dX8_nextEnd_5 (by decide) ?_
  refine z_istore_n (lv' := [(1, .int (-1)), (0, .ref (a8 0))]) C dX8_nextEnd_6 rfl (by decide) rfl ?_
  refine z_iconst (v := 1) C dX8_nextEnd_7 (by decide) ?_
  refine z_istore_n (lv' := [(2, .int 1), (1, .int (-1)), (0, .ref (a8 0))]) C dX8_nextEnd_8 rfl (by decide) rfl ?_
  exact z_sub C [2, 1, 0] rfl (c_X8_nextEnd_j9 l D cI cJ cZ a8 S V u C 600 (zs S 0 0) (-1) 1 hF)
theorem kX8_entries_88 : Cond.fieldLink RX8 88 "SecretBrokerModel" "thrown" "I" ∈ wsX8_entries := by decide +kernel
theorem kX8_entries_91 : Cond.fieldLink RX8 91 "SecretBrokerModel" "entries" "I" ∈ wsX8_entries := by decide +kernel
theorem hX8_entries_X8 : ∀ w ∈ wsX80, w ∈ wsX8_entries := by decide +kernel
set_option maxHeartbeats 4000000 in
set_option maxRecDepth 100000 in
theorem c_X8_entries (l : Launch) (D : va_G) (cI cJ cZ : ClassId) (a8 : Nat → Nat) (S : SS) (V : SL) (u : Int32 × SS) (hF : f_X8_entries S = some u) : zM l yX8_entries wsX8_entries ({ frames := 0, cells := 0, slots := 0, locals := 0 }) D (zTy cI cJ cZ) [.ref (a8 0)] (zwX8 cI cJ cZ a8 S V) (some (.int u.1)) (zwX8 cI cJ cZ a8 u.2 V) := by
  refine z_body (cc := cX8_entries) (maxL := 1) (rty := (some .int)) (own := RX8) (lv := [(0, .ref (a8 0))]) (by decide +kernel) rfl rfl (Nat.le_of_ble_eq_true rfl) rfl (fun p e s m args below meth c A C => ?_)
  refine z_aload_n C dX8_entries_0 rfl 0 rfl ?_
  refine z_iconst (v := 0) C dX8_entries_1 (by decide) ?_
  refine z_put (ws' := (zwX8 cI cJ cZ a8 (zs S 0 0) V)) (ref := "SecretBrokerModel") (ty := .int) C hX8_entries_X8 tyX8 tyX8_ok nmX8 0 rfl rfl 0 (by decide) kX8_entries_88 (fun _ h9 => h9) rfl (by decide +kernel) rfl rfl (Nat.le_of_ble_eq_true rfl) dX8_entries_2 (zs_val S 0 0) (zf_X8_0 cI cJ cZ a8 S V 0) ?_
  refine z_aload_n C dX8_entries_5 rfl 0 rfl ?_
  refine z_get (ref := "SecretBrokerModel") (v := .int (S 26 0)) C hX8_entries_X8 0 rfl rfl 26 (by decide) kX8_entries_91 (fun _ h9 => h9) rfl dX8_entries_6 ?_
  have hu := Option.some.inj hF
  subst hu
  exact z_iret C dX8_entries_9 rfl rfl
theorem kX8_asksEntry_88 : Cond.fieldLink RX8 88 "SecretBrokerModel" "thrown" "I" ∈ wsX8_asksEntry := by decide +kernel
theorem kX8_asksEntry_91 : Cond.fieldLink RX8 91 "SecretBrokerModel" "entries" "I" ∈ wsX8_asksEntry := by decide +kernel
theorem hX8_asksEntry_X8 : ∀ w ∈ wsX80, w ∈ wsX8_asksEntry := by decide +kernel
set_option maxHeartbeats 4000000 in
set_option maxRecDepth 100000 in
theorem c_X8_asksEntry (l : Launch) (D : va_G) (cI cJ cZ : ClassId) (a8 : Nat → Nat) (S : SS) (V : SL) (x1 : Int32) (u : Int32 × SS) (hF : f_X8_asksEntry S x1 = some u) : zM l yX8_asksEntry wsX8_asksEntry ({ frames := 0, cells := 0, slots := 0, locals := 0 }) D (zTy cI cJ cZ) [.ref (a8 0), .int x1] (zwX8 cI cJ cZ a8 S V) (some (.int u.1)) (zwX8 cI cJ cZ a8 u.2 V) := by
  refine z_body (cc := cX8_asksEntry) (maxL := 2) (rty := (some .boolean)) (own := RX8) (lv := [(0, .ref (a8 0)), (1, .int x1)]) (by decide +kernel) rfl rfl (Nat.le_of_ble_eq_true rfl) rfl (fun p e s m args below meth c A C => ?_)
  refine z_aload_n C dX8_asksEntry_0 rfl 0 rfl ?_
  refine z_iload_n C dX8_asksEntry_1 rfl 1 rfl ?_
  refine z_if_lt (tgt := 17) C dX8_asksEntry_2 (by decide) (fun c1 => ?_) (fun c1 => ?_)
  · have hF := zif hF c1
    refine z_iconst (v := 1) C dX8_asksEntry_17 (by decide) ?_
    refine z_put (ws' := (zwX8 cI cJ cZ a8 (zs S 0 1) V)) (ref := "SecretBrokerModel") (ty := .int) C hX8_asksEntry_X8 tyX8 tyX8_ok nmX8 0 rfl rfl 0 (by decide) kX8_asksEntry_88 (fun _ h9 => h9) rfl (by decide +kernel) rfl rfl (Nat.le_of_ble_eq_true rfl) dX8_asksEntry_18 (zs_val S 0 1) (zf_X8_0 cI cJ cZ a8 S V 1) ?_
    refine z_aload_n C dX8_asksEntry_21 rfl 0 rfl ?_
    refine z_get (ref := "SecretBrokerModel") (v := .int ((zs S 0 1) 0 0)) C hX8_asksEntry_X8 0 rfl rfl 0 (by decide) kX8_asksEntry_88 (fun _ h9 => h9) rfl dX8_asksEntry_22 ?_
    refine z_if_ne (tgt := 32) C dX8_asksEntry_25 (by decide) (fun c2 => ?_) (fun c2 => ?_)
    · have hF := zelse hF c2
      refine z_iconst (v := 0) C dX8_asksEntry_32 (by decide) ?_
      have hu := Option.some.inj hF
      subst hu
      exact z_iret C dX8_asksEntry_33 rfl z_b0
    · have hF := zif hF c2
      refine z_iconst (v := 1) C dX8_asksEntry_28 (by decide) ?_
      refine z_goto (tgt := 33) C dX8_asksEntry_29 (by decide) ?_
      have hu := Option.some.inj hF
      subst hu
      exact z_iret C dX8_asksEntry_33 rfl z_b1
  · have hF := zelse hF c1
    refine z_iload_n C dX8_asksEntry_5 rfl 1 rfl ?_
    refine z_aload_n C dX8_asksEntry_6 rfl 0 rfl ?_
    refine z_get (ref := "SecretBrokerModel") (v := .int (S 26 0)) C hX8_asksEntry_X8 0 rfl rfl 26 (by decide) kX8_asksEntry_91 (fun _ h9 => h9) rfl dX8_asksEntry_7 ?_
    refine z_icmp_ge (tgt := 17) C dX8_asksEntry_10 (by decide) (fun c3 => ?_) (fun c3 => ?_)
    · have hF := zif hF c3
      refine z_iconst (v := 1) C dX8_asksEntry_17 (by decide) ?_
      refine z_put (ws' := (zwX8 cI cJ cZ a8 (zs S 0 1) V)) (ref := "SecretBrokerModel") (ty := .int) C hX8_asksEntry_X8 tyX8 tyX8_ok nmX8 0 rfl rfl 0 (by decide) kX8_asksEntry_88 (fun _ h9 => h9) rfl (by decide +kernel) rfl rfl (Nat.le_of_ble_eq_true rfl) dX8_asksEntry_18 (zs_val S 0 1) (zf_X8_0 cI cJ cZ a8 S V 1) ?_
      refine z_aload_n C dX8_asksEntry_21 rfl 0 rfl ?_
      refine z_get (ref := "SecretBrokerModel") (v := .int ((zs S 0 1) 0 0)) C hX8_asksEntry_X8 0 rfl rfl 0 (by decide) kX8_asksEntry_88 (fun _ h9 => h9) rfl dX8_asksEntry_22 ?_
      refine z_if_ne (tgt := 32) C dX8_asksEntry_25 (by decide) (fun c4 => ?_) (fun c4 => ?_)
      · have hF := zelse hF c4
        refine z_iconst (v := 0) C dX8_asksEntry_32 (by decide) ?_
        have hu := Option.some.inj hF
        subst hu
        exact z_iret C dX8_asksEntry_33 rfl z_b0
      · have hF := zif hF c4
        refine z_iconst (v := 1) C dX8_asksEntry_28 (by decide) ?_
        refine z_goto (tgt := 33) C dX8_asksEntry_29 (by decide) ?_
        have hu := Option.some.inj hF
        subst hu
        exact z_iret C dX8_asksEntry_33 rfl z_b1
    · have hF := zelse hF c3
      refine z_iconst (v := 0) C dX8_asksEntry_13 (by decide) ?_
      refine z_goto (tgt := 18) C dX8_asksEntry_14 (by decide) ?_
      refine z_put (ws' := (zwX8 cI cJ cZ a8 (zs S 0 0) V)) (ref := "SecretBrokerModel") (ty := .int) C hX8_asksEntry_X8 tyX8 tyX8_ok nmX8 0 rfl rfl 0 (by decide) kX8_asksEntry_88 (fun _ h9 => h9) rfl (by decide +kernel) rfl rfl (Nat.le_of_ble_eq_true rfl) dX8_asksEntry_18 (zs_val S 0 0) (zf_X8_0 cI cJ cZ a8 S V 0) ?_
      refine z_aload_n C dX8_asksEntry_21 rfl 0 rfl ?_
      refine z_get (ref := "SecretBrokerModel") (v := .int ((zs S 0 0) 0 0)) C hX8_asksEntry_X8 0 rfl rfl 0 (by decide) kX8_asksEntry_88 (fun _ h9 => h9) rfl dX8_asksEntry_22 ?_
      refine z_if_ne (tgt := 32) C dX8_asksEntry_25 (by decide) (fun c5 => ?_) (fun c5 => ?_)
      · have hF := zelse hF c5
        refine z_iconst (v := 0) C dX8_asksEntry_32 (by decide) ?_
        have hu := Option.some.inj hF
        subst hu
        exact z_iret C dX8_asksEntry_33 rfl z_b0
      · have hF := zif hF c5
        refine z_iconst (v := 1) C dX8_asksEntry_28 (by decide) ?_
        refine z_goto (tgt := 33) C dX8_asksEntry_29 (by decide) ?_
        have hu := Option.some.inj hF
        subst hu
        exact z_iret C dX8_asksEntry_33 rfl z_b1
theorem kX8_kindOf_75 : Cond.fieldLink RX8 75 "SecretBrokerModel" "kind" "[I" ∈ wsX8_kindOf := by decide +kernel
theorem hX8_kindOf_X8 : ∀ w ∈ wsX80, w ∈ wsX8_kindOf := by decide +kernel
set_option maxHeartbeats 4000000 in
set_option maxRecDepth 100000 in
theorem c_X8_kindOf (l : Launch) (D : va_G) (cI cJ cZ : ClassId) (a8 : Nat → Nat) (S : SS) (V : SL) (x1 : Int32) (u : Int32 × SS) (hF : f_X8_kindOf S x1 = some u) : zM l yX8_kindOf wsX8_kindOf ({ frames := 1, cells := 0, slots := 0, locals := 21 }) D (zTy cI cJ cZ) [.ref (a8 0), .int x1] (zwX8 cI cJ cZ a8 S V) (some (.int u.1)) (zwX8 cI cJ cZ a8 u.2 V) := by
  refine z_body (cc := cX8_kindOf) (maxL := 2) (rty := (some .int)) (own := RX8) (lv := [(0, .ref (a8 0)), (1, .int x1)]) (by decide +kernel) rfl rfl (Nat.le_of_ble_eq_true rfl) rfl (fun p e s m args below meth c A C => ?_)
  refine z_aload_n C dX8_kindOf_0 rfl 0 rfl ?_
  refine z_iload_n C dX8_kindOf_1 rfl 1 rfl ?_
  obtain ⟨r1, er1, hF⟩ := zbd hF
  refine z_callV (n := 1) (As := [.int x1]) (ws' := (zwX8 cI cJ cZ a8 r1.2 V)) C (c_X8_asksEntry l D cI cJ cZ a8 S V x1 r1 er1) gX8_kindOf_X8_asksEntry rfl rfl rfl (by decide +kernel) ⟨Nat.le_of_ble_eq_true rfl, Nat.le_of_ble_eq_true rfl⟩ ⟨Nat.zero_le _, Nat.zero_le _⟩ 0 rfl rfl [] [] rfl rfl rfl rfl (Nat.le_of_ble_eq_true rfl) dX8_kindOf_2 ?_
  refine z_if_eq (tgt := 17) C dX8_kindOf_5 (by decide) (fun c2 => ?_) (fun c2 => ?_)
  · have hF := zif hF c2
    refine z_iconst (v := 0) C dX8_kindOf_17 (by decide) ?_
    have hu := Option.some.inj hF
    subst hu
    exact z_iret C dX8_kindOf_18 rfl rfl
  · have hF := zelse hF c2
    refine z_aload_n C dX8_kindOf_8 rfl 0 rfl ?_
    refine z_get (ref := "SecretBrokerModel") (v := .ref (a8 21)) C hX8_kindOf_X8 0 rfl rfl 27 (by decide) kX8_kindOf_75 (fun _ h9 => h9) rfl dX8_kindOf_9 ?_
    refine z_iload_n C dX8_kindOf_12 rfl 1 rfl ?_
    obtain ⟨g3, hF⟩ := zix_some hF
    refine z_iald (v := ((r1.2 27) x1.toNatClampNeg)) C g3 21 rfl rfl rfl dX8_kindOf_13 ?_
    refine z_goto (tgt := 18) C dX8_kindOf_14 (by decide) ?_
    have hu := Option.some.inj hF
    subst hu
    exact z_iret C dX8_kindOf_18 rfl rfl
theorem kX8_subjectOf_78 : Cond.fieldLink RX8 78 "SecretBrokerModel" "subject" "[I" ∈ wsX8_subjectOf := by decide +kernel
theorem hX8_subjectOf_X8 : ∀ w ∈ wsX80, w ∈ wsX8_subjectOf := by decide +kernel
set_option maxHeartbeats 4000000 in
set_option maxRecDepth 100000 in
theorem c_X8_subjectOf (l : Launch) (D : va_G) (cI cJ cZ : ClassId) (a8 : Nat → Nat) (S : SS) (V : SL) (x1 : Int32) (u : Int32 × SS) (hF : f_X8_subjectOf S x1 = some u) : zM l yX8_subjectOf wsX8_subjectOf ({ frames := 1, cells := 0, slots := 0, locals := 21 }) D (zTy cI cJ cZ) [.ref (a8 0), .int x1] (zwX8 cI cJ cZ a8 S V) (some (.int u.1)) (zwX8 cI cJ cZ a8 u.2 V) := by
  refine z_body (cc := cX8_subjectOf) (maxL := 2) (rty := (some .int)) (own := RX8) (lv := [(0, .ref (a8 0)), (1, .int x1)]) (by decide +kernel) rfl rfl (Nat.le_of_ble_eq_true rfl) rfl (fun p e s m args below meth c A C => ?_)
  refine z_aload_n C dX8_subjectOf_0 rfl 0 rfl ?_
  refine z_iload_n C dX8_subjectOf_1 rfl 1 rfl ?_
  obtain ⟨r1, er1, hF⟩ := zbd hF
  refine z_callV (n := 1) (As := [.int x1]) (ws' := (zwX8 cI cJ cZ a8 r1.2 V)) C (c_X8_asksEntry l D cI cJ cZ a8 S V x1 r1 er1) gX8_subjectOf_X8_asksEntry rfl rfl rfl (by decide +kernel) ⟨Nat.le_of_ble_eq_true rfl, Nat.le_of_ble_eq_true rfl⟩ ⟨Nat.zero_le _, Nat.zero_le _⟩ 0 rfl rfl [] [] rfl rfl rfl rfl (Nat.le_of_ble_eq_true rfl) dX8_subjectOf_2 ?_
  refine z_if_eq (tgt := 17) C dX8_subjectOf_5 (by decide) (fun c2 => ?_) (fun c2 => ?_)
  · have hF := zif hF c2
    refine z_iconst (v := 0) C dX8_subjectOf_17 (by decide) ?_
    have hu := Option.some.inj hF
    subst hu
    exact z_iret C dX8_subjectOf_18 rfl rfl
  · have hF := zelse hF c2
    refine z_aload_n C dX8_subjectOf_8 rfl 0 rfl ?_
    refine z_get (ref := "SecretBrokerModel") (v := .ref (a8 22)) C hX8_subjectOf_X8 0 rfl rfl 28 (by decide) kX8_subjectOf_78 (fun _ h9 => h9) rfl dX8_subjectOf_9 ?_
    refine z_iload_n C dX8_subjectOf_12 rfl 1 rfl ?_
    obtain ⟨g3, hF⟩ := zix_some hF
    refine z_iald (v := ((r1.2 28) x1.toNatClampNeg)) C g3 22 rfl rfl rfl dX8_subjectOf_13 ?_
    refine z_goto (tgt := 18) C dX8_subjectOf_14 (by decide) ?_
    have hu := Option.some.inj hF
    subst hu
    exact z_iret C dX8_subjectOf_18 rfl rfl
theorem kX8_detailOf_81 : Cond.fieldLink RX8 81 "SecretBrokerModel" "detail" "[I" ∈ wsX8_detailOf := by decide +kernel
theorem hX8_detailOf_X8 : ∀ w ∈ wsX80, w ∈ wsX8_detailOf := by decide +kernel
set_option maxHeartbeats 4000000 in
set_option maxRecDepth 100000 in
theorem c_X8_detailOf (l : Launch) (D : va_G) (cI cJ cZ : ClassId) (a8 : Nat → Nat) (S : SS) (V : SL) (x1 : Int32) (u : Int32 × SS) (hF : f_X8_detailOf S x1 = some u) : zM l yX8_detailOf wsX8_detailOf ({ frames := 1, cells := 0, slots := 0, locals := 21 }) D (zTy cI cJ cZ) [.ref (a8 0), .int x1] (zwX8 cI cJ cZ a8 S V) (some (.int u.1)) (zwX8 cI cJ cZ a8 u.2 V) := by
  refine z_body (cc := cX8_detailOf) (maxL := 2) (rty := (some .int)) (own := RX8) (lv := [(0, .ref (a8 0)), (1, .int x1)]) (by decide +kernel) rfl rfl (Nat.le_of_ble_eq_true rfl) rfl (fun p e s m args below meth c A C => ?_)
  refine z_aload_n C dX8_detailOf_0 rfl 0 rfl ?_
  refine z_iload_n C dX8_detailOf_1 rfl 1 rfl ?_
  obtain ⟨r1, er1, hF⟩ := zbd hF
  refine z_callV (n := 1) (As := [.int x1]) (ws' := (zwX8 cI cJ cZ a8 r1.2 V)) C (c_X8_asksEntry l D cI cJ cZ a8 S V x1 r1 er1) gX8_detailOf_X8_asksEntry rfl rfl rfl (by decide +kernel) ⟨Nat.le_of_ble_eq_true rfl, Nat.le_of_ble_eq_true rfl⟩ ⟨Nat.zero_le _, Nat.zero_le _⟩ 0 rfl rfl [] [] rfl rfl rfl rfl (Nat.le_of_ble_eq_true rfl) dX8_detailOf_2 ?_
  refine z_if_eq (tgt := 17) C dX8_detailOf_5 (by decide) (fun c2 => ?_) (fun c2 => ?_)
  · have hF := zif hF c2
    refine z_iconst (v := 0) C dX8_detailOf_17 (by decide) ?_
    have hu := Option.some.inj hF
    subst hu
    exact z_iret C dX8_detailOf_18 rfl rfl
  · have hF := zelse hF c2
    refine z_aload_n C dX8_detailOf_8 rfl 0 rfl ?_
    refine z_get (ref := "SecretBrokerModel") (v := .ref (a8 23)) C hX8_detailOf_X8 0 rfl rfl 29 (by decide) kX8_detailOf_81 (fun _ h9 => h9) rfl dX8_detailOf_9 ?_
    refine z_iload_n C dX8_detailOf_12 rfl 1 rfl ?_
    obtain ⟨g3, hF⟩ := zix_some hF
    refine z_iald (v := ((r1.2 29) x1.toNatClampNeg)) C g3 23 rfl rfl rfl dX8_detailOf_13 ?_
    refine z_goto (tgt := 18) C dX8_detailOf_14 (by decide) ?_
    have hu := Option.some.inj hF
    subst hu
    exact z_iret C dX8_detailOf_18 rfl rfl
theorem kX8_sumOf_84 : Cond.fieldLink RX8 84 "SecretBrokerModel" "sum" "[J" ∈ wsX8_sumOf := by decide +kernel
theorem hX8_sumOf_X8 : ∀ w ∈ wsX80, w ∈ wsX8_sumOf := by decide +kernel
set_option maxHeartbeats 4000000 in
set_option maxRecDepth 100000 in
theorem c_X8_sumOf (l : Launch) (D : va_G) (cI cJ cZ : ClassId) (a8 : Nat → Nat) (S : SS) (V : SL) (x1 : Int32) (u : Int64 × SS) (hF : f_X8_sumOf S V x1 = some u) : zM l yX8_sumOf wsX8_sumOf ({ frames := 1, cells := 0, slots := 0, locals := 21 }) D (zTy cI cJ cZ) [.ref (a8 0), .int x1] (zwX8 cI cJ cZ a8 S V) (some (.long u.1)) (zwX8 cI cJ cZ a8 u.2 V) := by
  refine z_body (cc := cX8_sumOf) (maxL := 2) (rty := (some .long)) (own := RX8) (lv := [(0, .ref (a8 0)), (1, .int x1)]) (by decide +kernel) rfl rfl (Nat.le_of_ble_eq_true rfl) rfl (fun p e s m args below meth c A C => ?_)
  refine z_aload_n C dX8_sumOf_0 rfl 0 rfl ?_
  refine z_iload_n C dX8_sumOf_1 rfl 1 rfl ?_
  obtain ⟨r1, er1, hF⟩ := zbd hF
  refine z_callV (n := 1) (As := [.int x1]) (ws' := (zwX8 cI cJ cZ a8 r1.2 V)) C (c_X8_asksEntry l D cI cJ cZ a8 S V x1 r1 er1) gX8_sumOf_X8_asksEntry rfl rfl rfl (by decide +kernel) ⟨Nat.le_of_ble_eq_true rfl, Nat.le_of_ble_eq_true rfl⟩ ⟨Nat.zero_le _, Nat.zero_le _⟩ 0 rfl rfl [] [] rfl rfl rfl rfl (Nat.le_of_ble_eq_true rfl) dX8_sumOf_2 ?_
  refine z_if_eq (tgt := 17) C dX8_sumOf_5 (by decide) (fun c2 => ?_) (fun c2 => ?_)
  · have hF := zif hF c2
    refine z_lconst (v := 0) C dX8_sumOf_17 (by decide) ?_
    have hu := Option.some.inj hF
    subst hu
    exact z_lret C dX8_sumOf_18 rfl
  · have hF := zelse hF c2
    refine z_aload_n C dX8_sumOf_8 rfl 0 rfl ?_
    refine z_get (ref := "SecretBrokerModel") (v := .ref (a8 24)) C hX8_sumOf_X8 0 rfl rfl 30 (by decide) kX8_sumOf_84 (fun _ h9 => h9) rfl dX8_sumOf_9 ?_
    refine z_iload_n C dX8_sumOf_12 rfl 1 rfl ?_
    obtain ⟨g3, hF⟩ := zix_some hF
    refine z_lald (v := (V x1.toNatClampNeg)) C g3 24 rfl rfl rfl dX8_sumOf_13 ?_
    refine z_goto (tgt := 18) C dX8_sumOf_14 (by decide) ?_
    have hu := Option.some.inj hF
    subst hu
    exact z_lret C dX8_sumOf_18 rfl
