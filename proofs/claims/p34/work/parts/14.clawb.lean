set_option maxHeartbeats 4000000 in
set_option maxRecDepth 100000 in
theorem c_L_mountFor_j5 (l : Launch) (D : va_G) (cI cJ cZ : ClassId) (aw : Nat → Nat) (W : SS) (O : SL) (u : Int32) {p : Program} {e : Env} {s : State} {m : MethodId} {args : Array Value} {below : List Frame} {meth : Method} {c : Code} {A : Nat → Prop} (C : zC p s m args meth c cL_mountFor 5 (some .int) RL wsL_mountFor D (zTy cI cJ cZ) A s.heap) : ∀ (n : Nat) (v0 : Int32) (v3 : Int32) (v4 : Int32), f_L_mountFor_5 W n v0 v3 v4 = some u → zW p l e { frames := 3, cells := 0, slots := 0, locals := 65 } s m args below meth c 5 D A s.heap 0 0 (MQ below (zQ D (zTy cI cJ cZ) (some (.int u)) (zwW cI cJ cZ aw W O) A) args s 0 0 A) (zwW cI cJ cZ aw W O) [(0, .int v0), (1, .ref (aw 0)), (2, .ref (aw 6)), (3, .int v3), (4, .int v4)] 5 [] := by
  intro n
  induction n with
  | zero => intro v0 v3 v4 hF; exact absurd (show none = some u from hF) (fun q => nomatch q)
  | succ n ih =>
    intro v0 v3 v4 hF
    refine z_iload C dL_mountFor_5 4 rfl ?_
    refine z_aload_n C dL_mountFor_7 rfl 1 rfl ?_
    refine z_iconst (v := 2) C dL_mountFor_8 (by decide) ?_
    obtain ⟨g1, hF⟩ := zix_some hF
    refine z_iald (v := ((W 0) (2 : Int32).toNatClampNeg)) C g1 0 rfl rfl rfl dL_mountFor_9 ?_
    refine z_icmp_ge (tgt := 53) C dL_mountFor_10 (by decide) (fun c2 => ?_) (fun c2 => ?_)
    · have hF := zif hF c2
      refine z_iload_n C dL_mountFor_53 rfl 3 rfl ?_
      have hu := Option.some.inj hF
      subst hu
      exact z_iret C dL_mountFor_54 rfl rfl
    · have hF := zelse hF c2
      refine z_iload_n C dL_mountFor_13 rfl 0 rfl ?_
      refine z_aload_n C dL_mountFor_14 rfl 2 rfl ?_
      refine z_iconst (v := 3) C dL_mountFor_15 (by decide) ?_
      refine z_iload C dL_mountFor_16 4 rfl ?_
      refine z_imul C dL_mountFor_18 ?_
      obtain ⟨g3, hF⟩ := zix_some hF
      refine z_iald (v := ((W 6) (3 * v4).toNatClampNeg)) C g3 6 rfl rfl rfl dL_mountFor_19 ?_
      obtain ⟨r4, er4, hF⟩ := zbd hF
      refine z_callS (n := 2) (As := [.int v0, .int ((W 6) (3 * v4).toNatClampNeg)]) C (c_L_isBelow l D cI cJ cZ v0 ((W 6) (3 * v4).toNatClampNeg) r4 er4) gL_mountFor_L_isBelow rfl rfl rfl (by decide +kernel) ⟨Nat.le_of_ble_eq_true rfl, Nat.le_of_ble_eq_true rfl⟩ ⟨Nat.zero_le _, Nat.zero_le _⟩ rfl rfl (Nat.le_of_ble_eq_true rfl) dL_mountFor_20 ?_
      refine z_if_eq (tgt := 47) C dL_mountFor_23 (by decide) (fun c5 => ?_) (fun c5 => ?_)
      · have hF := zif hF c5
        refine z_iinc (v := (v4 + 1)) (lv' := [(4, .int (v4 + 1)), (0, .int v0), (1, .ref (aw 0)), (2, .ref (aw 6)), (3, .int v3)]) C dL_mountFor_47 4 rfl rfl (by decide) rfl ?_
        refine z_goto (tgt := 5) C dL_mountFor_50 (by decide) ?_
        exact z_sub C [1, 2, 3, 4, 0] rfl (ih v0 v3 (v4 + 1) hF)
      · have hF := zelse hF c5
        refine z_iload_n C dL_mountFor_26 rfl 3 rfl ?_
        refine z_if_lt (tgt := 44) C dL_mountFor_27 (by decide) (fun c6 => ?_) (fun c6 => ?_)
        · have hF := zif hF c6
          refine z_iload C dL_mountFor_44 4 rfl ?_
          refine z_istore_n (lv' := [(3, .int v4), (0, .int v0), (1, .ref (aw 0)), (2, .ref (aw 6)), (4, .int v4)]) C dL_mountFor_46 rfl (by decide) rfl ?_
          refine z_iinc (v := (v4 + 1)) (lv' := [(4, .int (v4 + 1)), (3, .int v4), (0, .int v0), (1, .ref (aw 0)), (2, .ref (aw 6))]) C dL_mountFor_47 4 rfl rfl (by decide) rfl ?_
          refine z_goto (tgt := 5) C dL_mountFor_50 (by decide) ?_
          exact z_sub C [2, 3, 4, 1, 0] rfl (ih v0 v4 (v4 + 1) hF)
        · have hF := zelse hF c6
          refine z_aload_n C dL_mountFor_30 rfl 2 rfl ?_
          refine z_iconst (v := 3) C dL_mountFor_31 (by decide) ?_
          refine z_iload C dL_mountFor_32 4 rfl ?_
          refine z_imul C dL_mountFor_34 ?_
          obtain ⟨g7, hF⟩ := zix_some hF
          refine z_iald (v := ((W 6) (3 * v4).toNatClampNeg)) C g7 6 rfl rfl rfl dL_mountFor_35 ?_
          refine z_aload_n C dL_mountFor_36 rfl 2 rfl ?_
          refine z_iconst (v := 3) C dL_mountFor_37 (by decide) ?_
          refine z_iload_n C dL_mountFor_38 rfl 3 rfl ?_
          refine z_imul C dL_mountFor_39 ?_
          obtain ⟨g8, hF⟩ := zix_some hF
          refine z_iald (v := ((W 6) (3 * v3).toNatClampNeg)) C g8 6 rfl rfl rfl dL_mountFor_40 ?_
          refine z_icmp_le (tgt := 47) C dL_mountFor_41 (by decide) (fun c9 => ?_) (fun c9 => ?_)
          · have hF := zif hF c9
            refine z_iinc (v := (v4 + 1)) (lv' := [(4, .int (v4 + 1)), (0, .int v0), (1, .ref (aw 0)), (2, .ref (aw 6)), (3, .int v3)]) C dL_mountFor_47 4 rfl rfl (by decide) rfl ?_
            refine z_goto (tgt := 5) C dL_mountFor_50 (by decide) ?_
            exact z_sub C [1, 2, 3, 4, 0] rfl (ih v0 v3 (v4 + 1) hF)
          · have hF := zelse hF c9
            refine z_iload C dL_mountFor_44 4 rfl ?_
            refine z_istore_n (lv' := [(3, .int v4), (0, .int v0), (1, .ref (aw 0)), (2, .ref (aw 6)), (4, .int v4)]) C dL_mountFor_46 rfl (by decide) rfl ?_
            refine z_iinc (v := (v4 + 1)) (lv' := [(4, .int (v4 + 1)), (3, .int v4), (0, .int v0), (1, .ref (aw 0)), (2, .ref (aw 6))]) C dL_mountFor_47 4 rfl rfl (by decide) rfl ?_
            refine z_goto (tgt := 5) C dL_mountFor_50 (by decide) ?_
            exact z_sub C [2, 3, 4, 1, 0] rfl (ih v0 v4 (v4 + 1) hF)
set_option maxHeartbeats 4000000 in
set_option maxRecDepth 100000 in
theorem c_L_mountFor (l : Launch) (D : va_G) (cI cJ cZ : ClassId) (aw : Nat → Nat) (W : SS) (O : SL) (x1 : Int32) (u : Int32) (hF : f_L_mountFor W x1 = some u) : zM l yL_mountFor wsL_mountFor ({ frames := 3, cells := 0, slots := 0, locals := 65 }) D (zTy cI cJ cZ) [.int x1, .ref (aw 0), .ref (aw 6)] (zwW cI cJ cZ aw W O) (some (.int u)) (zwW cI cJ cZ aw W O) := by
  refine z_body (cc := cL_mountFor) (maxL := 5) (rty := (some .int)) (own := RL) (lv := [(0, .int x1), (1, .ref (aw 0)), (2, .ref (aw 6))]) (by decide +kernel) rfl rfl (Nat.le_of_ble_eq_true rfl) rfl (fun p e s m args below meth c A C => ?_)
  refine z_iconst (v := (-1)) C dL_mountFor_0 (by decide) ?_
  refine z_istore_n (lv' := [(3, .int (-1)), (0, .int x1), (1, .ref (aw 0)), (2, .ref (aw 6))]) C dL_mountFor_1 rfl (by decide) rfl ?_
  refine z_iconst (v := 0) C dL_mountFor_2 (by decide) ?_
  refine z_istore (lv' := [(4, .int 0), (3, .int (-1)), (0, .int x1), (1, .ref (aw 0)), (2, .ref (aw 6))]) C dL_mountFor_3 (by decide) rfl ?_
  exact z_sub C [2, 3, 4, 1, 0] rfl (c_L_mountFor_j5 l D cI cJ cZ aw W O u C 600 x1 (-1) 0 hF)
set_option maxHeartbeats 4000000 in
set_option maxRecDepth 100000 in
theorem c_L_why (l : Launch) (D : va_G) (cI cJ cZ : ClassId) (aw : Nat → Nat) (W : SS) (O : SL) (x1 : Int32) (x2 : Int32) (u : Int32) (hF : f_L_why W x1 x2 = some u) : zM l yL_why wsL_why ({ frames := 4, cells := 0, slots := 0, locals := 101 }) D (zTy cI cJ cZ) [.int x1, .int x2, .ref (aw 0), .ref (aw 1), .ref (aw 6), .ref (aw 3), .ref (aw 4), .ref (aw 5)] (zwW cI cJ cZ aw W O) (some (.int u)) (zwW cI cJ cZ aw W O) := by
  refine z_body (cc := cL_why) (maxL := 8) (rty := (some .int)) (own := RL) (lv := [(0, .int x1), (1, .int x2), (2, .ref (aw 0)), (3, .ref (aw 1)), (4, .ref (aw 6)), (5, .ref (aw 3)), (6, .ref (aw 4)), (7, .ref (aw 5))]) (by decide +kernel) rfl rfl (Nat.le_of_ble_eq_true rfl) rfl (fun p e s m args below meth c A C => ?_)
  refine z_iload_n C dL_why_0 rfl 0 rfl ?_
  refine z_aload_n C dL_why_1 rfl 2 rfl ?_
  refine z_aload_n C dL_why_2 rfl 3 rfl ?_
  obtain ⟨r1, er1, hF⟩ := zbd hF
  refine z_callSW (n := 3) (As := [.int x1, .ref (aw 0), .ref (aw 1)]) (ws' := (zwW cI cJ cZ aw W O)) C (c_L_lives l D cI cJ cZ aw W O x1 r1 er1) gL_why_L_lives rfl rfl rfl (by decide +kernel) ⟨Nat.le_of_ble_eq_true rfl, Nat.le_of_ble_eq_true rfl⟩ ⟨Nat.zero_le _, Nat.zero_le _⟩ [] [] zAs7 zAs8 rfl rfl (Nat.le_of_ble_eq_true rfl) dL_why_3 ?_
  refine z_if_ne (tgt := 13) C dL_why_6 (by decide) (fun c2 => ?_) (fun c2 => ?_)
  · have hF := zelse hF c2
    refine z_aload_n C dL_why_13 rfl 3 rfl ?_
    refine z_iconst (v := 5) C dL_why_14 (by decide) ?_
    refine z_iload_n C dL_why_15 rfl 0 rfl ?_
    refine z_imul C dL_why_16 ?_
    refine z_iconst (v := 4) C dL_why_17 (by decide) ?_
    refine z_iadd C dL_why_18 ?_
    obtain ⟨g3, hF⟩ := zix_some hF
    refine z_iald (v := ((W 1) ((5 * x1) + 4).toNatClampNeg)) C g3 1 rfl rfl rfl dL_why_19 ?_
    refine z_if_ne (tgt := 27) C dL_why_20 (by decide) (fun c4 => ?_) (fun c4 => ?_)
    · have hF := zelse hF c4
      refine z_iload_n C dL_why_27 rfl 1 rfl ?_
      refine z_aload_n C dL_why_28 rfl 2 rfl ?_
      refine z_aload C dL_why_29 4 rfl ?_
      obtain ⟨r5, er5, hF⟩ := zbd hF
      refine z_callSW (n := 3) (As := [.int x2, .ref (aw 0), .ref (aw 6)]) (ws' := (zwW cI cJ cZ aw W O)) C (c_L_mountFor l D cI cJ cZ aw W O x2 r5 er5) gL_why_L_mountFor rfl rfl rfl (by decide +kernel) ⟨Nat.le_of_ble_eq_true rfl, Nat.le_of_ble_eq_true rfl⟩ ⟨Nat.zero_le _, Nat.zero_le _⟩ [] [] zAs7 zAs8 rfl rfl (Nat.le_of_ble_eq_true rfl) dL_why_31 ?_
      refine z_if_ge (tgt := 41) C dL_why_34 (by decide) (fun c6 => ?_) (fun c6 => ?_)
      · have hF := zif hF c6
        refine z_iload_n C dL_why_41 rfl 0 rfl ?_
        refine z_iload_n C dL_why_42 rfl 1 rfl ?_
        refine z_aload_n C dL_why_43 rfl 3 rfl ?_
        refine z_aload C dL_why_44 5 rfl ?_
        refine z_aload C dL_why_46 6 rfl ?_
        refine z_aload C dL_why_48 7 rfl ?_
        obtain ⟨r7, er7, hF⟩ := zbd hF
        refine z_callSW (n := 6) (As := [.int x1, .int x2, .ref (aw 1), .ref (aw 3), .ref (aw 4), .ref (aw 5)]) (ws' := (zwW cI cJ cZ aw W O)) C (c_L_can l D cI cJ cZ aw W O x1 x2 r7 er7) gL_why_L_can rfl rfl rfl (by decide +kernel) ⟨Nat.le_of_ble_eq_true rfl, Nat.le_of_ble_eq_true rfl⟩ ⟨Nat.zero_le _, Nat.zero_le _⟩ [] [] zAs7 zAs8 rfl rfl (Nat.le_of_ble_eq_true rfl) dL_why_50 ?_
        refine z_iconst (v := 2) C dL_why_53 (by decide) ?_
        refine z_irem C dL_why_54 (by decide) ?_
        refine z_if_ne (tgt := 62) C dL_why_55 (by decide) (fun c8 => ?_) (fun c8 => ?_)
        · have hF := zelse hF c8
          refine z_iconst (v := 0) C dL_why_62 (by decide) ?_
          have hu := Option.some.inj hF
          subst hu
          exact z_iret C dL_why_63 rfl rfl
        · have hF := zif hF c8
          refine z_iconst (v := 4) C dL_why_58 (by decide) ?_
          refine z_goto (tgt := 63) C dL_why_59 (by decide) ?_
          have hu := Option.some.inj hF
          subst hu
          exact z_iret C dL_why_63 rfl rfl
      · have hF := zelse hF c6
        refine z_iconst (v := 3) C dL_why_37 (by decide) ?_
        refine z_goto (tgt := 63) C dL_why_38 (by decide) ?_
        have hu := Option.some.inj hF
        subst hu
        exact z_iret C dL_why_63 rfl rfl
    · have hF := zif hF c4
      refine z_iconst (v := 2) C dL_why_23 (by decide) ?_
      refine z_goto (tgt := 63) C dL_why_24 (by decide) ?_
      have hu := Option.some.inj hF
      subst hu
      exact z_iret C dL_why_63 rfl rfl
  · have hF := zif hF c2
    refine z_iconst (v := 1) C dL_why_9 (by decide) ?_
    refine z_goto (tgt := 63) C dL_why_10 (by decide) ?_
    have hu := Option.some.inj hF
    subst hu
    exact z_iret C dL_why_63 rfl rfl
theorem kL_refused_74 : Cond.classLink RL 74 "java/lang/IllegalArgumentException" ∈ wsL_refused := by decide +kernel
theorem kL_refused_76 : Cond.classLink RL 76 "java/lang/IllegalStateException" ∈ wsL_refused := by decide +kernel
theorem kL_refused_78 : Cond.classLink RL 78 "java/lang/IndexOutOfBoundsException" ∈ wsL_refused := by decide +kernel
set_option maxHeartbeats 4000000 in
set_option maxRecDepth 100000 in
theorem c_L_refused (l : Launch) (hl : l.stackTraces = false) (D : va_G) (cI cJ cZ : ClassId) (ab : Nat) (a5 : Nat → Nat) (a3 : Nat → Nat) (a6 : Nat → Nat) (a1 : Nat → Nat) (a0 : Nat → Nat) (B : SS) (P : SS) (M : SS) (T : SS) (K : SS) (U : SS) (L : SL) (x2 : Int32) (x3 : Int32) (x4 : Int32) (x5 : Int32) (u : Int32 × SS × SS × SS × SL) (hF : f_L_refused B P M T K U L x2 x3 x4 x5 = some u) : zL l yL_refused wsL_refused 9 169 1 6 D (zTy cI cJ cZ) [.ref ab, .int x2, .int x3, .int x4, .int x5] (zwX7 cI cJ cZ ab a5 a3 a6 a1 a0 B P M T K U L) (some (.int u.1)) (zwX7 cI cJ cZ ab a5 a3 a6 a1 a0 B P M u.2.1 u.2.2.1 u.2.2.2.1 u.2.2.2.2) (if u.1 = 0 then 0 else 1) := by
  refine z_lbodyH (cc := cL_refused) (maxL := 6) (rty := (some .int)) (hh := [(0, 121, 122, 74), (0, 121, 126, 76), (0, 121, 130, 78)]) (own := RL) (lv := [(0, .ref ab), (1, .int x2), (2, .int x3), (3, .int x4), (4, .int x5)]) (by decide +kernel) rfl rfl (Nat.le_of_ble_eq_true rfl) rfl (fun p e s m args below meth c A C XE XN XT => ?_)
  refine z_iload_n C dL_refused_0 rfl 1 rfl ?_
  refine z_if_ne (tgt := 18) C dL_refused_1 (by decide) (fun c1 => ?_) (fun c1 => ?_)
  · have hF := zelse hF c1
    refine z_iload_n C dL_refused_18 rfl 1 rfl ?_
    refine z_iconst (v := 1) C dL_refused_19 (by decide) ?_
    refine z_icmp_ne (tgt := 32) C dL_refused_20 (by decide) (fun c2 => ?_) (fun c2 => ?_)
    · have hF := zelse hF c2
      refine z_iload_n C dL_refused_32 rfl 1 rfl ?_
      refine z_iconst (v := 2) C dL_refused_33 (by decide) ?_
      refine z_icmp_ne (tgt := 45) C dL_refused_34 (by decide) (fun c3 => ?_) (fun c3 => ?_)
      · have hF := zelse hF c3
        refine z_iload_n C dL_refused_45 rfl 1 rfl ?_
        refine z_iconst (v := 3) C dL_refused_46 (by decide) ?_
        refine z_icmp_ne (tgt := 58) C dL_refused_47 (by decide) (fun c4 => ?_) (fun c4 => ?_)
        · have hF := zelse hF c4
          refine z_iload_n C dL_refused_58 rfl 1 rfl ?_
          refine z_iconst (v := 4) C dL_refused_59 (by decide) ?_
          refine z_icmp_ne (tgt := 72) C dL_refused_60 (by decide) (fun c5 => ?_) (fun c5 => ?_)
          · have hF := zelse hF c5
            refine z_iload_n C dL_refused_72 rfl 1 rfl ?_
            refine z_iconst (v := 5) C dL_refused_73 (by decide) ?_
            refine z_icmp_ne (tgt := 85) C dL_refused_74 (by decide) (fun c6 => ?_) (fun c6 => ?_)
            · have hF := zelse hF c6
              refine z_iload_n C dL_refused_85 rfl 1 rfl ?_
              refine z_bipush (v := 6) C dL_refused_86 (by decide) ?_
              refine z_icmp_ne (tgt := 99) C dL_refused_88 (by decide) (fun c7 => ?_) (fun c7 => ?_)
              · have hF := zelse hF c7
                refine z_iload_n C dL_refused_99 rfl 1 rfl ?_
                refine z_bipush (v := 7) C dL_refused_100 (by decide) ?_
                refine z_icmp_ne (tgt := 114) C dL_refused_102 (by decide) (fun c8 => ?_) (fun c8 => ?_)
                · have hF := zelse hF c8
                  refine z_aload_n C dL_refused_114 rfl 0 rfl ?_
                  refine z_iload_n C dL_refused_115 rfl 2 rfl ?_
                  rcases zca_some hF with ⟨Er9, er9, hF⟩ | ⟨r9, er9, hF⟩
                  · by_cases c10 : Er9 = "java/lang/IllegalArgumentException"
                    · have hF := zif hF c10
                      subst c10
                      refine z_gcatchV (n := 1) (As := [.int x3]) (name := "java/lang/IllegalArgumentException") (pre9 := []) (x9 := ⟨0, 121, 122, 74⟩) (suf9 := [⟨0, 121, 126, 76⟩, ⟨0, 121, 130, 78⟩]) C XE (c_X7_kindOf l hl D cI cJ cZ ab a5 a3 a6 a1 a0 B P M T K U L x3 (.inl "java/lang/IllegalArgumentException") er9) gL_refused_X7_kindOf rfl (by decide +kernel) ⟨Nat.le_of_ble_eq_true rfl, Nat.le_of_ble_eq_true rfl⟩ ⟨Nat.le_refl 1, Nat.le_refl 6⟩ 0 rfl rfl [] [] rfl rfl rfl (Nat.le_of_ble_eq_true rfl) dL_refused_116 XT (fun z hz => absurd hz List.not_mem_nil) (by decide) (by decide) kL_refused_74 XE.2.2.1.1.2.1 (fun q11 => ?_)
                      refine z_astore (lv' := [(5, .ref q11), (0, .ref ab), (1, .int x2), (2, .int x3), (3, .int x4), (4, .int x5)]) (zC_pad 1 C) dL_refused_122 (by decide) rfl ?_
                      refine z_iconst (v := 1) (zC_pad 1 C) dL_refused_124 (by decide) ?_
                      have hu := Option.some.inj hF
                      subst hu
                      refine z_widen (k := 1) (n := 6) (Nat.le_of_ble_eq_true rfl) (Nat.le_of_ble_eq_true rfl) ?_
                      exact z_lretg (zC_pad 1 C) (zhb_pad (A := A) C (zg1 _)) dL_refused_125 rfl rfl
                    · have hF := zelse hF c10
                      by_cases c12 : Er9 = "java/lang/IllegalStateException"
                      · have hF := zif hF c12
                        subst c12
                        refine z_gcatchV (n := 1) (As := [.int x3]) (name := "java/lang/IllegalStateException") (pre9 := [⟨0, 121, 122, 74⟩]) (x9 := ⟨0, 121, 126, 76⟩) (suf9 := [⟨0, 121, 130, 78⟩]) C XE (c_X7_kindOf l hl D cI cJ cZ ab a5 a3 a6 a1 a0 B P M T K U L x3 (.inl "java/lang/IllegalStateException") er9) gL_refused_X7_kindOf rfl (by decide +kernel) ⟨Nat.le_of_ble_eq_true rfl, Nat.le_of_ble_eq_true rfl⟩ ⟨Nat.le_refl 1, Nat.le_refl 6⟩ 0 rfl rfl [] [] rfl rfl rfl (Nat.le_of_ble_eq_true rfl) dL_refused_116 XT (List.forall_mem_cons.mpr ⟨Or.inr ⟨by decide, "java/lang/IllegalArgumentException", C.2.2.2.2.1 _ kL_refused_74, XN.2.2⟩, (fun _ h => absurd h List.not_mem_nil)⟩) (by decide) (by decide) kL_refused_76 XE.2.2.1.1.1 (fun q13 => ?_)
                        refine z_astore (lv' := [(5, .ref q13), (0, .ref ab), (1, .int x2), (2, .int x3), (3, .int x4), (4, .int x5)]) (zC_pad 1 C) dL_refused_126 (by decide) rfl ?_
                        refine z_iconst (v := 2) (zC_pad 1 C) dL_refused_128 (by decide) ?_
                        have hu := Option.some.inj hF
                        subst hu
                        refine z_widen (k := 1) (n := 6) (Nat.le_of_ble_eq_true rfl) (Nat.le_of_ble_eq_true rfl) ?_
                        exact z_lretg (zC_pad 1 C) (zhb_pad (A := A) C (zg1 _)) dL_refused_129 rfl rfl
                      · have hF := zelse hF c12
                        by_cases c14 : Er9 = "java/lang/IndexOutOfBoundsException"
                        · have hF := zif hF c14
                          subst c14
                          refine z_gcatchV (n := 1) (As := [.int x3]) (name := "java/lang/IndexOutOfBoundsException") (pre9 := [⟨0, 121, 122, 74⟩, ⟨0, 121, 126, 76⟩]) (x9 := ⟨0, 121, 130, 78⟩) (suf9 := []) C XE (c_X7_kindOf l hl D cI cJ cZ ab a5 a3 a6 a1 a0 B P M T K U L x3 (.inl "java/lang/IndexOutOfBoundsException") er9) gL_refused_X7_kindOf rfl (by decide +kernel) ⟨Nat.le_of_ble_eq_true rfl, Nat.le_of_ble_eq_true rfl⟩ ⟨Nat.le_refl 1, Nat.le_refl 6⟩ 0 rfl rfl [] [] rfl rfl rfl (Nat.le_of_ble_eq_true rfl) dL_refused_116 XT (List.forall_mem_cons.mpr ⟨Or.inr ⟨by decide, "java/lang/IllegalArgumentException", C.2.2.2.2.1 _ kL_refused_74, XN.1⟩, (List.forall_mem_cons.mpr ⟨Or.inr ⟨by decide, "java/lang/IllegalStateException", C.2.2.2.2.1 _ kL_refused_76, XN.2.1⟩, (fun _ h => absurd h List.not_mem_nil)⟩)⟩) (by decide) (by decide) kL_refused_78 XE.2.2.1.1.2.2 (fun q15 => ?_)
                          refine z_astore (lv' := [(5, .ref q15), (0, .ref ab), (1, .int x2), (2, .int x3), (3, .int x4), (4, .int x5)]) (zC_pad 1 C) dL_refused_130 (by decide) rfl ?_
                          refine z_iconst (v := 3) (zC_pad 1 C) dL_refused_132 (by decide) ?_
                          have hu := Option.some.inj hF
                          subst hu
                          refine z_widen (k := 1) (n := 6) (Nat.le_of_ble_eq_true rfl) (Nat.le_of_ble_eq_true rfl) ?_
                          exact z_lretg (zC_pad 1 C) (zhb_pad (A := A) C (zg1 _)) dL_refused_133 rfl rfl
                        · have hF := zelse hF c14
                          exact absurd hF (fun q => nomatch q)
                  · refine z_gcallV_R (n := 1) (As := [.int x3]) (ws' := (zwX7 cI cJ cZ ab a5 a3 a6 a1 a0 B P M T K U L)) C C XE (fun _ _ h => h) (c_X7_kindOf l hl D cI cJ cZ ab a5 a3 a6 a1 a0 B P M T K U L x3 (.inr r9) er9) gL_refused_X7_kindOf rfl (by decide +kernel) ⟨Nat.le_of_ble_eq_true rfl, Nat.le_of_ble_eq_true rfl⟩ ⟨Nat.zero_le _, Nat.zero_le _⟩ 0 rfl rfl [] [] rfl rfl rfl rfl (Nat.le_of_ble_eq_true rfl) dL_refused_116 ?_
                    refine z_iconst (v := 0) C dL_refused_119 (by decide) ?_
                    refine z_imul C dL_refused_120 ?_
                    have hu := Option.some.inj hF
                    subst hu
                    refine z_widen (k := 1) (n := 6) (Nat.le_of_ble_eq_true rfl) (Nat.le_of_ble_eq_true rfl) ?_
                    exact z_lretg C (zhb_0 (zg00 _)) dL_refused_121 rfl rfl
                · have hF := zif hF c8
                  refine z_aload_n C dL_refused_105 rfl 0 rfl ?_
                  refine z_iload_n C dL_refused_106 rfl 2 rfl ?_
                  refine z_iload_n C dL_refused_107 rfl 3 rfl ?_
                  rcases zca_some hF with ⟨Er16, er16, hF⟩ | ⟨r16, er16, hF⟩
                  · by_cases c17 : Er16 = "java/lang/IllegalArgumentException"
                    · have hF := zif hF c17
                      subst c17
                      refine z_gcatchV (n := 2) (As := [.int x3, .int x4]) (name := "java/lang/IllegalArgumentException") (pre9 := []) (x9 := ⟨0, 121, 122, 74⟩) (suf9 := [⟨0, 121, 126, 76⟩, ⟨0, 121, 130, 78⟩]) C XE (c_X7_request l hl D cI cJ cZ ab a5 a3 a6 a1 a0 B P M T K U L x3 x4 (.inl "java/lang/IllegalArgumentException") er16) gL_refused_X7_request rfl (by decide +kernel) ⟨Nat.le_of_ble_eq_true rfl, Nat.le_of_ble_eq_true rfl⟩ ⟨Nat.le_refl 1, Nat.le_refl 6⟩ 0 rfl rfl [] [] rfl rfl rfl (Nat.le_of_ble_eq_true rfl) dL_refused_108 XT (fun z hz => absurd hz List.not_mem_nil) (by decide) (by decide) kL_refused_74 XE.2.2.1.1.2.1 (fun q18 => ?_)
                      refine z_astore (lv' := [(5, .ref q18), (0, .ref ab), (1, .int x2), (2, .int x3), (3, .int x4), (4, .int x5)]) (zC_pad 1 C) dL_refused_122 (by decide) rfl ?_
                      refine z_iconst (v := 1) (zC_pad 1 C) dL_refused_124 (by decide) ?_
                      have hu := Option.some.inj hF
                      subst hu
                      refine z_widen (k := 1) (n := 6) (Nat.le_of_ble_eq_true rfl) (Nat.le_of_ble_eq_true rfl) ?_
                      exact z_lretg (zC_pad 1 C) (zhb_pad (A := A) C (zg1 _)) dL_refused_125 rfl rfl
                    · have hF := zelse hF c17
                      by_cases c19 : Er16 = "java/lang/IllegalStateException"
                      · have hF := zif hF c19
                        subst c19
                        refine z_gcatchV (n := 2) (As := [.int x3, .int x4]) (name := "java/lang/IllegalStateException") (pre9 := [⟨0, 121, 122, 74⟩]) (x9 := ⟨0, 121, 126, 76⟩) (suf9 := [⟨0, 121, 130, 78⟩]) C XE (c_X7_request l hl D cI cJ cZ ab a5 a3 a6 a1 a0 B P M T K U L x3 x4 (.inl "java/lang/IllegalStateException") er16) gL_refused_X7_request rfl (by decide +kernel) ⟨Nat.le_of_ble_eq_true rfl, Nat.le_of_ble_eq_true rfl⟩ ⟨Nat.le_refl 1, Nat.le_refl 6⟩ 0 rfl rfl [] [] rfl rfl rfl (Nat.le_of_ble_eq_true rfl) dL_refused_108 XT (List.forall_mem_cons.mpr ⟨Or.inr ⟨by decide, "java/lang/IllegalArgumentException", C.2.2.2.2.1 _ kL_refused_74, XN.2.2⟩, (fun _ h => absurd h List.not_mem_nil)⟩) (by decide) (by decide) kL_refused_76 XE.2.2.1.1.1 (fun q20 => ?_)
                        refine z_astore (lv' := [(5, .ref q20), (0, .ref ab), (1, .int x2), (2, .int x3), (3, .int x4), (4, .int x5)]) (zC_pad 1 C) dL_refused_126 (by decide) rfl ?_
                        refine z_iconst (v := 2) (zC_pad 1 C) dL_refused_128 (by decide) ?_
                        have hu := Option.some.inj hF
                        subst hu
                        refine z_widen (k := 1) (n := 6) (Nat.le_of_ble_eq_true rfl) (Nat.le_of_ble_eq_true rfl) ?_
                        exact z_lretg (zC_pad 1 C) (zhb_pad (A := A) C (zg1 _)) dL_refused_129 rfl rfl
                      · have hF := zelse hF c19
                        by_cases c21 : Er16 = "java/lang/IndexOutOfBoundsException"
                        · have hF := zif hF c21
                          subst c21
                          refine z_gcatchV (n := 2) (As := [.int x3, .int x4]) (name := "java/lang/IndexOutOfBoundsException") (pre9 := [⟨0, 121, 122, 74⟩, ⟨0, 121, 126, 76⟩]) (x9 := ⟨0, 121, 130, 78⟩) (suf9 := []) C XE (c_X7_request l hl D cI cJ cZ ab a5 a3 a6 a1 a0 B P M T K U L x3 x4 (.inl "java/lang/IndexOutOfBoundsException") er16) gL_refused_X7_request rfl (by decide +kernel) ⟨Nat.le_of_ble_eq_true rfl, Nat.le_of_ble_eq_true rfl⟩ ⟨Nat.le_refl 1, Nat.le_refl 6⟩ 0 rfl rfl [] [] rfl rfl rfl (Nat.le_of_ble_eq_true rfl) dL_refused_108 XT (List.forall_mem_cons.mpr ⟨Or.inr ⟨by decide, "java/lang/IllegalArgumentException", C.2.2.2.2.1 _ kL_refused_74, XN.1⟩, (List.forall_mem_cons.mpr ⟨Or.inr ⟨by decide, "java/lang/IllegalStateException", C.2.2.2.2.1 _ kL_refused_76, XN.2.1⟩, (fun _ h => absurd h List.not_mem_nil)⟩)⟩) (by decide) (by decide) kL_refused_78 XE.2.2.1.1.2.2 (fun q22 => ?_)
                          refine z_astore (lv' := [(5, .ref q22), (0, .ref ab), (1, .int x2), (2, .int x3), (3, .int x4), (4, .int x5)]) (zC_pad 1 C) dL_refused_130 (by decide) rfl ?_
                          refine z_iconst (v := 3) (zC_pad 1 C) dL_refused_132 (by decide) ?_
                          have hu := Option.some.inj hF
                          subst hu
                          refine z_widen (k := 1) (n := 6) (Nat.le_of_ble_eq_true rfl) (Nat.le_of_ble_eq_true rfl) ?_
                          exact z_lretg (zC_pad 1 C) (zhb_pad (A := A) C (zg1 _)) dL_refused_133 rfl rfl
                        · have hF := zelse hF c21
                          exact absurd hF (fun q => nomatch q)
                  · refine z_gcallV_R (n := 2) (As := [.int x3, .int x4]) (ws' := (zwX7 cI cJ cZ ab a5 a3 a6 a1 a0 B P M r16.2.1 r16.2.2.1 r16.2.2.2.1 r16.2.2.2.2)) C C XE (fun _ _ h => h) (c_X7_request l hl D cI cJ cZ ab a5 a3 a6 a1 a0 B P M T K U L x3 x4 (.inr r16) er16) gL_refused_X7_request rfl (by decide +kernel) ⟨Nat.le_of_ble_eq_true rfl, Nat.le_of_ble_eq_true rfl⟩ ⟨Nat.zero_le _, Nat.zero_le _⟩ 0 rfl rfl [] [] rfl rfl rfl rfl (Nat.le_of_ble_eq_true rfl) dL_refused_108 ?_
                    refine z_goto (tgt := 119) C dL_refused_111 (by decide) ?_
                    refine z_iconst (v := 0) C dL_refused_119 (by decide) ?_
                    refine z_imul C dL_refused_120 ?_
                    have hu := Option.some.inj hF
                    subst hu
                    refine z_widen (k := 1) (n := 6) (Nat.le_of_ble_eq_true rfl) (Nat.le_of_ble_eq_true rfl) ?_
                    exact z_lretg C (zhb_0 (zg00 _)) dL_refused_121 rfl rfl
              · have hF := zif hF c7
                refine z_aload_n C dL_refused_91 rfl 0 rfl ?_
                refine z_iload_n C dL_refused_92 rfl 2 rfl ?_
                rcases zca_some hF with ⟨Er23, er23, hF⟩ | ⟨r23, er23, hF⟩
                · by_cases c24 : Er23 = "java/lang/IllegalArgumentException"
                  · have hF := zif hF c24
                    subst c24
                    refine z_gcatchV (n := 1) (As := [.int x3]) (name := "java/lang/IllegalArgumentException") (pre9 := []) (x9 := ⟨0, 121, 122, 74⟩) (suf9 := [⟨0, 121, 126, 76⟩, ⟨0, 121, 130, 78⟩]) C XE (c_X7_endOfCredential l hl D cI cJ cZ ab a5 a3 a6 a1 a0 B P M T K U L x3 (.inl "java/lang/IllegalArgumentException") er23) gL_refused_X7_endOfCredential rfl (by decide +kernel) ⟨Nat.le_of_ble_eq_true rfl, Nat.le_of_ble_eq_true rfl⟩ ⟨Nat.le_refl 1, Nat.le_refl 6⟩ 0 rfl rfl [] [] rfl rfl rfl (Nat.le_of_ble_eq_true rfl) dL_refused_93 XT (fun z hz => absurd hz List.not_mem_nil) (by decide) (by decide) kL_refused_74 XE.2.2.1.1.2.1 (fun q25 => ?_)
                    refine z_astore (lv' := [(5, .ref q25), (0, .ref ab), (1, .int x2), (2, .int x3), (3, .int x4), (4, .int x5)]) (zC_pad 1 C) dL_refused_122 (by decide) rfl ?_
                    refine z_iconst (v := 1) (zC_pad 1 C) dL_refused_124 (by decide) ?_
                    have hu := Option.some.inj hF
                    subst hu
                    refine z_widen (k := 1) (n := 6) (Nat.le_of_ble_eq_true rfl) (Nat.le_of_ble_eq_true rfl) ?_
                    exact z_lretg (zC_pad 1 C) (zhb_pad (A := A) C (zg1 _)) dL_refused_125 rfl rfl
                  · have hF := zelse hF c24
                    by_cases c26 : Er23 = "java/lang/IllegalStateException"
                    · have hF := zif hF c26
                      subst c26
                      refine z_gcatchV (n := 1) (As := [.int x3]) (name := "java/lang/IllegalStateException") (pre9 := [⟨0, 121, 122, 74⟩]) (x9 := ⟨0, 121, 126, 76⟩) (suf9 := [⟨0, 121, 130, 78⟩]) C XE (c_X7_endOfCredential l hl D cI cJ cZ ab a5 a3 a6 a1 a0 B P M T K U L x3 (.inl "java/lang/IllegalStateException") er23) gL_refused_X7_endOfCredential rfl (by decide +kernel) ⟨Nat.le_of_ble_eq_true rfl, Nat.le_of_ble_eq_true rfl⟩ ⟨Nat.le_refl 1, Nat.le_refl 6⟩ 0 rfl rfl [] [] rfl rfl rfl (Nat.le_of_ble_eq_true rfl) dL_refused_93 XT (List.forall_mem_cons.mpr ⟨Or.inr ⟨by decide, "java/lang/IllegalArgumentException", C.2.2.2.2.1 _ kL_refused_74, XN.2.2⟩, (fun _ h => absurd h List.not_mem_nil)⟩) (by decide) (by decide) kL_refused_76 XE.2.2.1.1.1 (fun q27 => ?_)
                      refine z_astore (lv' := [(5, .ref q27), (0, .ref ab), (1, .int x2), (2, .int x3), (3, .int x4), (4, .int x5)]) (zC_pad 1 C) dL_refused_126 (by decide) rfl ?_
                      refine z_iconst (v := 2) (zC_pad 1 C) dL_refused_128 (by decide) ?_
                      have hu := Option.some.inj hF
                      subst hu
                      refine z_widen (k := 1) (n := 6) (Nat.le_of_ble_eq_true rfl) (Nat.le_of_ble_eq_true rfl) ?_
                      exact z_lretg (zC_pad 1 C) (zhb_pad (A := A) C (zg1 _)) dL_refused_129 rfl rfl
                    · have hF := zelse hF c26
                      by_cases c28 : Er23 = "java/lang/IndexOutOfBoundsException"
                      · have hF := zif hF c28
                        subst c28
                        refine z_gcatchV (n := 1) (As := [.int x3]) (name := "java/lang/IndexOutOfBoundsException") (pre9 := [⟨0, 121, 122, 74⟩, ⟨0, 121, 126, 76⟩]) (x9 := ⟨0, 121, 130, 78⟩) (suf9 := []) C XE (c_X7_endOfCredential l hl D cI cJ cZ ab a5 a3 a6 a1 a0 B P M T K U L x3 (.inl "java/lang/IndexOutOfBoundsException") er23) gL_refused_X7_endOfCredential rfl (by decide +kernel) ⟨Nat.le_of_ble_eq_true rfl, Nat.le_of_ble_eq_true rfl⟩ ⟨Nat.le_refl 1, Nat.le_refl 6⟩ 0 rfl rfl [] [] rfl rfl rfl (Nat.le_of_ble_eq_true rfl) dL_refused_93 XT (List.forall_mem_cons.mpr ⟨Or.inr ⟨by decide, "java/lang/IllegalArgumentException", C.2.2.2.2.1 _ kL_refused_74, XN.1⟩, (List.forall_mem_cons.mpr ⟨Or.inr ⟨by decide, "java/lang/IllegalStateException", C.2.2.2.2.1 _ kL_refused_76, XN.2.1⟩, (fun _ h => absurd h List.not_mem_nil)⟩)⟩) (by decide) (by decide) kL_refused_78 XE.2.2.1.1.2.2 (fun q29 => ?_)
                        refine z_astore (lv' := [(5, .ref q29), (0, .ref ab), (1, .int x2), (2, .int x3), (3, .int x4), (4, .int x5)]) (zC_pad 1 C) dL_refused_130 (by decide) rfl ?_
                        refine z_iconst (v := 3) (zC_pad 1 C) dL_refused_132 (by decide) ?_
                        have hu := Option.some.inj hF
                        subst hu
                        refine z_widen (k := 1) (n := 6) (Nat.le_of_ble_eq_true rfl) (Nat.le_of_ble_eq_true rfl) ?_
                        exact z_lretg (zC_pad 1 C) (zhb_pad (A := A) C (zg1 _)) dL_refused_133 rfl rfl
                      · have hF := zelse hF c28
                        exact absurd hF (fun q => nomatch q)
                · refine z_gcallV_R (n := 1) (As := [.int x3]) (ws' := (zwX7 cI cJ cZ ab a5 a3 a6 a1 a0 B P M T K U L)) C C XE (fun _ _ h => h) (c_X7_endOfCredential l hl D cI cJ cZ ab a5 a3 a6 a1 a0 B P M T K U L x3 (.inr r23) er23) gL_refused_X7_endOfCredential rfl (by decide +kernel) ⟨Nat.le_of_ble_eq_true rfl, Nat.le_of_ble_eq_true rfl⟩ ⟨Nat.zero_le _, Nat.zero_le _⟩ 0 rfl rfl [] [] rfl rfl rfl rfl (Nat.le_of_ble_eq_true rfl) dL_refused_93 ?_
                  refine z_goto (tgt := 119) C dL_refused_96 (by decide) ?_
                  refine z_iconst (v := 0) C dL_refused_119 (by decide) ?_
                  refine z_imul C dL_refused_120 ?_
                  have hu := Option.some.inj hF
                  subst hu
                  refine z_widen (k := 1) (n := 6) (Nat.le_of_ble_eq_true rfl) (Nat.le_of_ble_eq_true rfl) ?_
                  exact z_lretg C (zhb_0 (zg00 _)) dL_refused_121 rfl rfl
            · have hF := zif hF c6
              refine z_aload_n C dL_refused_77 rfl 0 rfl ?_
              refine z_iload_n C dL_refused_78 rfl 2 rfl ?_
              rcases zca_some hF with ⟨Er30, er30, hF⟩ | ⟨r30, er30, hF⟩
              · by_cases c31 : Er30 = "java/lang/IllegalArgumentException"
                · have hF := zif hF c31
                  subst c31
                  refine z_gcatchV (n := 1) (As := [.int x3]) (name := "java/lang/IllegalArgumentException") (pre9 := []) (x9 := ⟨0, 121, 122, 74⟩) (suf9 := [⟨0, 121, 126, 76⟩, ⟨0, 121, 130, 78⟩]) C XE (c_X7_credentialsOf l hl D cI cJ cZ ab a5 a3 a6 a1 a0 B P M T K U L x3 (.inl "java/lang/IllegalArgumentException") er30) gL_refused_X7_credentialsOf rfl (by decide +kernel) ⟨Nat.le_of_ble_eq_true rfl, Nat.le_of_ble_eq_true rfl⟩ ⟨Nat.le_refl 1, Nat.le_refl 6⟩ 0 rfl rfl [] [] rfl rfl rfl (Nat.le_of_ble_eq_true rfl) dL_refused_79 XT (fun z hz => absurd hz List.not_mem_nil) (by decide) (by decide) kL_refused_74 XE.2.2.1.1.2.1 (fun q32 => ?_)
                  refine z_astore (lv' := [(5, .ref q32), (0, .ref ab), (1, .int x2), (2, .int x3), (3, .int x4), (4, .int x5)]) (zC_pad 1 C) dL_refused_122 (by decide) rfl ?_
                  refine z_iconst (v := 1) (zC_pad 1 C) dL_refused_124 (by decide) ?_
                  have hu := Option.some.inj hF
                  subst hu
                  refine z_widen (k := 1) (n := 6) (Nat.le_of_ble_eq_true rfl) (Nat.le_of_ble_eq_true rfl) ?_
                  exact z_lretg (zC_pad 1 C) (zhb_pad (A := A) C (zg1 _)) dL_refused_125 rfl rfl
                · have hF := zelse hF c31
                  by_cases c33 : Er30 = "java/lang/IllegalStateException"
                  · have hF := zif hF c33
                    subst c33
                    refine z_gcatchV (n := 1) (As := [.int x3]) (name := "java/lang/IllegalStateException") (pre9 := [⟨0, 121, 122, 74⟩]) (x9 := ⟨0, 121, 126, 76⟩) (suf9 := [⟨0, 121, 130, 78⟩]) C XE (c_X7_credentialsOf l hl D cI cJ cZ ab a5 a3 a6 a1 a0 B P M T K U L x3 (.inl "java/lang/IllegalStateException") er30) gL_refused_X7_credentialsOf rfl (by decide +kernel) ⟨Nat.le_of_ble_eq_true rfl, Nat.le_of_ble_eq_true rfl⟩ ⟨Nat.le_refl 1, Nat.le_refl 6⟩ 0 rfl rfl [] [] rfl rfl rfl (Nat.le_of_ble_eq_true rfl) dL_refused_79 XT (List.forall_mem_cons.mpr ⟨Or.inr ⟨by decide, "java/lang/IllegalArgumentException", C.2.2.2.2.1 _ kL_refused_74, XN.2.2⟩, (fun _ h => absurd h List.not_mem_nil)⟩) (by decide) (by decide) kL_refused_76 XE.2.2.1.1.1 (fun q34 => ?_)
                    refine z_astore (lv' := [(5, .ref q34), (0, .ref ab), (1, .int x2), (2, .int x3), (3, .int x4), (4, .int x5)]) (zC_pad 1 C) dL_refused_126 (by decide) rfl ?_
                    refine z_iconst (v := 2) (zC_pad 1 C) dL_refused_128 (by decide) ?_
                    have hu := Option.some.inj hF
                    subst hu
                    refine z_widen (k := 1) (n := 6) (Nat.le_of_ble_eq_true rfl) (Nat.le_of_ble_eq_true rfl) ?_
                    exact z_lretg (zC_pad 1 C) (zhb_pad (A := A) C (zg1 _)) dL_refused_129 rfl rfl
                  · have hF := zelse hF c33
                    by_cases c35 : Er30 = "java/lang/IndexOutOfBoundsException"
                    · have hF := zif hF c35
                      subst c35
                      refine z_gcatchV (n := 1) (As := [.int x3]) (name := "java/lang/IndexOutOfBoundsException") (pre9 := [⟨0, 121, 122, 74⟩, ⟨0, 121, 126, 76⟩]) (x9 := ⟨0, 121, 130, 78⟩) (suf9 := []) C XE (c_X7_credentialsOf l hl D cI cJ cZ ab a5 a3 a6 a1 a0 B P M T K U L x3 (.inl "java/lang/IndexOutOfBoundsException") er30) gL_refused_X7_credentialsOf rfl (by decide +kernel) ⟨Nat.le_of_ble_eq_true rfl, Nat.le_of_ble_eq_true rfl⟩ ⟨Nat.le_refl 1, Nat.le_refl 6⟩ 0 rfl rfl [] [] rfl rfl rfl (Nat.le_of_ble_eq_true rfl) dL_refused_79 XT (List.forall_mem_cons.mpr ⟨Or.inr ⟨by decide, "java/lang/IllegalArgumentException", C.2.2.2.2.1 _ kL_refused_74, XN.1⟩, (List.forall_mem_cons.mpr ⟨Or.inr ⟨by decide, "java/lang/IllegalStateException", C.2.2.2.2.1 _ kL_refused_76, XN.2.1⟩, (fun _ h => absurd h List.not_mem_nil)⟩)⟩) (by decide) (by decide) kL_refused_78 XE.2.2.1.1.2.2 (fun q36 => ?_)
                      refine z_astore (lv' := [(5, .ref q36), (0, .ref ab), (1, .int x2), (2, .int x3), (3, .int x4), (4, .int x5)]) (zC_pad 1 C) dL_refused_130 (by decide) rfl ?_
                      refine z_iconst (v := 3) (zC_pad 1 C) dL_refused_132 (by decide) ?_
                      have hu := Option.some.inj hF
                      subst hu
                      refine z_widen (k := 1) (n := 6) (Nat.le_of_ble_eq_true rfl) (Nat.le_of_ble_eq_true rfl) ?_
                      exact z_lretg (zC_pad 1 C) (zhb_pad (A := A) C (zg1 _)) dL_refused_133 rfl rfl
                    · have hF := zelse hF c35
                      exact absurd hF (fun q => nomatch q)
              · refine z_gcallV_R (n := 1) (As := [.int x3]) (ws' := (zwX7 cI cJ cZ ab a5 a3 a6 a1 a0 B P M T K U L)) C C XE (fun _ _ h => h) (c_X7_credentialsOf l hl D cI cJ cZ ab a5 a3 a6 a1 a0 B P M T K U L x3 (.inr r30) er30) gL_refused_X7_credentialsOf rfl (by decide +kernel) ⟨Nat.le_of_ble_eq_true rfl, Nat.le_of_ble_eq_true rfl⟩ ⟨Nat.zero_le _, Nat.zero_le _⟩ 0 rfl rfl [] [] rfl rfl rfl rfl (Nat.le_of_ble_eq_true rfl) dL_refused_79 ?_
                refine z_goto (tgt := 119) C dL_refused_82 (by decide) ?_
                refine z_iconst (v := 0) C dL_refused_119 (by decide) ?_
                refine z_imul C dL_refused_120 ?_
                have hu := Option.some.inj hF
                subst hu
                refine z_widen (k := 1) (n := 6) (Nat.le_of_ble_eq_true rfl) (Nat.le_of_ble_eq_true rfl) ?_
                exact z_lretg C (zhb_0 (zg00 _)) dL_refused_121 rfl rfl
          · have hF := zif hF c5
            refine z_aload_n C dL_refused_63 rfl 0 rfl ?_
            refine z_iload_n C dL_refused_64 rfl 2 rfl ?_
            refine z_iload_n C dL_refused_65 rfl 3 rfl ?_
            rcases zca_some hF with ⟨Er37, er37, hF⟩ | ⟨r37, er37, hF⟩
            · by_cases c38 : Er37 = "java/lang/IllegalArgumentException"
              · have hF := zif hF c38
                subst c38
                refine z_gcatchV (n := 2) (As := [.int x3, .int x4]) (name := "java/lang/IllegalArgumentException") (pre9 := []) (x9 := ⟨0, 121, 122, 74⟩) (suf9 := [⟨0, 121, 126, 76⟩, ⟨0, 121, 130, 78⟩]) C XE (c_X7_renewCredential l hl D cI cJ cZ ab a5 a3 a6 a1 a0 B P M T K U L x3 x4 (.inl "java/lang/IllegalArgumentException") er37) gL_refused_X7_renewCredential rfl (by decide +kernel) ⟨Nat.le_of_ble_eq_true rfl, Nat.le_of_ble_eq_true rfl⟩ ⟨Nat.le_refl 1, Nat.le_refl 6⟩ 0 rfl rfl [] [] rfl rfl rfl (Nat.le_of_ble_eq_true rfl) dL_refused_66 XT (fun z hz => absurd hz List.not_mem_nil) (by decide) (by decide) kL_refused_74 XE.2.2.1.1.2.1 (fun q39 => ?_)
                refine z_astore (lv' := [(5, .ref q39), (0, .ref ab), (1, .int x2), (2, .int x3), (3, .int x4), (4, .int x5)]) (zC_pad 1 C) dL_refused_122 (by decide) rfl ?_
                refine z_iconst (v := 1) (zC_pad 1 C) dL_refused_124 (by decide) ?_
                have hu := Option.some.inj hF
                subst hu
                refine z_widen (k := 1) (n := 6) (Nat.le_of_ble_eq_true rfl) (Nat.le_of_ble_eq_true rfl) ?_
                exact z_lretg (zC_pad 1 C) (zhb_pad (A := A) C (zg1 _)) dL_refused_125 rfl rfl
              · have hF := zelse hF c38
                by_cases c40 : Er37 = "java/lang/IllegalStateException"
                · have hF := zif hF c40
                  subst c40
                  refine z_gcatchV (n := 2) (As := [.int x3, .int x4]) (name := "java/lang/IllegalStateException") (pre9 := [⟨0, 121, 122, 74⟩]) (x9 := ⟨0, 121, 126, 76⟩) (suf9 := [⟨0, 121, 130, 78⟩]) C XE (c_X7_renewCredential l hl D cI cJ cZ ab a5 a3 a6 a1 a0 B P M T K U L x3 x4 (.inl "java/lang/IllegalStateException") er37) gL_refused_X7_renewCredential rfl (by decide +kernel) ⟨Nat.le_of_ble_eq_true rfl, Nat.le_of_ble_eq_true rfl⟩ ⟨Nat.le_refl 1, Nat.le_refl 6⟩ 0 rfl rfl [] [] rfl rfl rfl (Nat.le_of_ble_eq_true rfl) dL_refused_66 XT (List.forall_mem_cons.mpr ⟨Or.inr ⟨by decide, "java/lang/IllegalArgumentException", C.2.2.2.2.1 _ kL_refused_74, XN.2.2⟩, (fun _ h => absurd h List.not_mem_nil)⟩) (by decide) (by decide) kL_refused_76 XE.2.2.1.1.1 (fun q41 => ?_)
                  refine z_astore (lv' := [(5, .ref q41), (0, .ref ab), (1, .int x2), (2, .int x3), (3, .int x4), (4, .int x5)]) (zC_pad 1 C) dL_refused_126 (by decide) rfl ?_
                  refine z_iconst (v := 2) (zC_pad 1 C) dL_refused_128 (by decide) ?_
                  have hu := Option.some.inj hF
                  subst hu
                  refine z_widen (k := 1) (n := 6) (Nat.le_of_ble_eq_true rfl) (Nat.le_of_ble_eq_true rfl) ?_
                  exact z_lretg (zC_pad 1 C) (zhb_pad (A := A) C (zg1 _)) dL_refused_129 rfl rfl
                · have hF := zelse hF c40
                  by_cases c42 : Er37 = "java/lang/IndexOutOfBoundsException"
                  · have hF := zif hF c42
                    subst c42
                    refine z_gcatchV (n := 2) (As := [.int x3, .int x4]) (name := "java/lang/IndexOutOfBoundsException") (pre9 := [⟨0, 121, 122, 74⟩, ⟨0, 121, 126, 76⟩]) (x9 := ⟨0, 121, 130, 78⟩) (suf9 := []) C XE (c_X7_renewCredential l hl D cI cJ cZ ab a5 a3 a6 a1 a0 B P M T K U L x3 x4 (.inl "java/lang/IndexOutOfBoundsException") er37) gL_refused_X7_renewCredential rfl (by decide +kernel) ⟨Nat.le_of_ble_eq_true rfl, Nat.le_of_ble_eq_true rfl⟩ ⟨Nat.le_refl 1, Nat.le_refl 6⟩ 0 rfl rfl [] [] rfl rfl rfl (Nat.le_of_ble_eq_true rfl) dL_refused_66 XT (List.forall_mem_cons.mpr ⟨Or.inr ⟨by decide, "java/lang/IllegalArgumentException", C.2.2.2.2.1 _ kL_refused_74, XN.1⟩, (List.forall_mem_cons.mpr ⟨Or.inr ⟨by decide, "java/lang/IllegalStateException", C.2.2.2.2.1 _ kL_refused_76, XN.2.1⟩, (fun _ h => absurd h List.not_mem_nil)⟩)⟩) (by decide) (by decide) kL_refused_78 XE.2.2.1.1.2.2 (fun q43 => ?_)
                    refine z_astore (lv' := [(5, .ref q43), (0, .ref ab), (1, .int x2), (2, .int x3), (3, .int x4), (4, .int x5)]) (zC_pad 1 C) dL_refused_130 (by decide) rfl ?_
                    refine z_iconst (v := 3) (zC_pad 1 C) dL_refused_132 (by decide) ?_
                    have hu := Option.some.inj hF
                    subst hu
                    refine z_widen (k := 1) (n := 6) (Nat.le_of_ble_eq_true rfl) (Nat.le_of_ble_eq_true rfl) ?_
                    exact z_lretg (zC_pad 1 C) (zhb_pad (A := A) C (zg1 _)) dL_refused_133 rfl rfl
                  · have hF := zelse hF c42
                    exact absurd hF (fun q => nomatch q)
            · refine z_gcallV_R (n := 2) (As := [.int x3, .int x4]) (ws' := (zwX7 cI cJ cZ ab a5 a3 a6 a1 a0 B P M T r37.2.1 r37.2.2.1 r37.2.2.2)) C C XE (fun _ _ h => h) (c_X7_renewCredential l hl D cI cJ cZ ab a5 a3 a6 a1 a0 B P M T K U L x3 x4 (.inr r37) er37) gL_refused_X7_renewCredential rfl (by decide +kernel) ⟨Nat.le_of_ble_eq_true rfl, Nat.le_of_ble_eq_true rfl⟩ ⟨Nat.zero_le _, Nat.zero_le _⟩ 0 rfl rfl [] [] rfl rfl rfl rfl (Nat.le_of_ble_eq_true rfl) dL_refused_66 ?_
              refine z_goto (tgt := 119) C dL_refused_69 (by decide) ?_
              refine z_iconst (v := 0) C dL_refused_119 (by decide) ?_
              refine z_imul C dL_refused_120 ?_
              have hu := Option.some.inj hF
              subst hu
              refine z_widen (k := 1) (n := 6) (Nat.le_of_ble_eq_true rfl) (Nat.le_of_ble_eq_true rfl) ?_
              exact z_lretg C (zhb_0 (zg00 _)) dL_refused_121 rfl rfl
        · have hF := zif hF c4
          refine z_aload_n C dL_refused_50 rfl 0 rfl ?_
          refine z_iload_n C dL_refused_51 rfl 2 rfl ?_
          rcases zca_some hF with ⟨Er44, er44, hF⟩ | ⟨r44, er44, hF⟩
          · by_cases c45 : Er44 = "java/lang/IllegalArgumentException"
            · have hF := zif hF c45
              subst c45
              refine z_gcatchV (n := 1) (As := [.int x3]) (name := "java/lang/IllegalArgumentException") (pre9 := []) (x9 := ⟨0, 121, 122, 74⟩) (suf9 := [⟨0, 121, 126, 76⟩, ⟨0, 121, 130, 78⟩]) C XE (c_X7_revokeAlone l hl D cI cJ cZ ab a5 a3 a6 a1 a0 B P M T K U L x3 (.inl "java/lang/IllegalArgumentException") er44) gL_refused_X7_revokeAlone rfl (by decide +kernel) ⟨Nat.le_of_ble_eq_true rfl, Nat.le_of_ble_eq_true rfl⟩ ⟨Nat.le_refl 1, Nat.le_refl 6⟩ 0 rfl rfl [] [] rfl rfl rfl (Nat.le_of_ble_eq_true rfl) dL_refused_52 XT (fun z hz => absurd hz List.not_mem_nil) (by decide) (by decide) kL_refused_74 XE.2.2.1.1.2.1 (fun q46 => ?_)
              refine z_astore (lv' := [(5, .ref q46), (0, .ref ab), (1, .int x2), (2, .int x3), (3, .int x4), (4, .int x5)]) (zC_pad 1 C) dL_refused_122 (by decide) rfl ?_
              refine z_iconst (v := 1) (zC_pad 1 C) dL_refused_124 (by decide) ?_
              have hu := Option.some.inj hF
              subst hu
              refine z_widen (k := 1) (n := 6) (Nat.le_of_ble_eq_true rfl) (Nat.le_of_ble_eq_true rfl) ?_
              exact z_lretg (zC_pad 1 C) (zhb_pad (A := A) C (zg1 _)) dL_refused_125 rfl rfl
            · have hF := zelse hF c45
              by_cases c47 : Er44 = "java/lang/IllegalStateException"
              · have hF := zif hF c47
                subst c47
                refine z_gcatchV (n := 1) (As := [.int x3]) (name := "java/lang/IllegalStateException") (pre9 := [⟨0, 121, 122, 74⟩]) (x9 := ⟨0, 121, 126, 76⟩) (suf9 := [⟨0, 121, 130, 78⟩]) C XE (c_X7_revokeAlone l hl D cI cJ cZ ab a5 a3 a6 a1 a0 B P M T K U L x3 (.inl "java/lang/IllegalStateException") er44) gL_refused_X7_revokeAlone rfl (by decide +kernel) ⟨Nat.le_of_ble_eq_true rfl, Nat.le_of_ble_eq_true rfl⟩ ⟨Nat.le_refl 1, Nat.le_refl 6⟩ 0 rfl rfl [] [] rfl rfl rfl (Nat.le_of_ble_eq_true rfl) dL_refused_52 XT (List.forall_mem_cons.mpr ⟨Or.inr ⟨by decide, "java/lang/IllegalArgumentException", C.2.2.2.2.1 _ kL_refused_74, XN.2.2⟩, (fun _ h => absurd h List.not_mem_nil)⟩) (by decide) (by decide) kL_refused_76 XE.2.2.1.1.1 (fun q48 => ?_)
                refine z_astore (lv' := [(5, .ref q48), (0, .ref ab), (1, .int x2), (2, .int x3), (3, .int x4), (4, .int x5)]) (zC_pad 1 C) dL_refused_126 (by decide) rfl ?_
                refine z_iconst (v := 2) (zC_pad 1 C) dL_refused_128 (by decide) ?_
                have hu := Option.some.inj hF
                subst hu
                refine z_widen (k := 1) (n := 6) (Nat.le_of_ble_eq_true rfl) (Nat.le_of_ble_eq_true rfl) ?_
                exact z_lretg (zC_pad 1 C) (zhb_pad (A := A) C (zg1 _)) dL_refused_129 rfl rfl
              · have hF := zelse hF c47
                by_cases c49 : Er44 = "java/lang/IndexOutOfBoundsException"
                · have hF := zif hF c49
                  subst c49
                  refine z_gcatchV (n := 1) (As := [.int x3]) (name := "java/lang/IndexOutOfBoundsException") (pre9 := [⟨0, 121, 122, 74⟩, ⟨0, 121, 126, 76⟩]) (x9 := ⟨0, 121, 130, 78⟩) (suf9 := []) C XE (c_X7_revokeAlone l hl D cI cJ cZ ab a5 a3 a6 a1 a0 B P M T K U L x3 (.inl "java/lang/IndexOutOfBoundsException") er44) gL_refused_X7_revokeAlone rfl (by decide +kernel) ⟨Nat.le_of_ble_eq_true rfl, Nat.le_of_ble_eq_true rfl⟩ ⟨Nat.le_refl 1, Nat.le_refl 6⟩ 0 rfl rfl [] [] rfl rfl rfl (Nat.le_of_ble_eq_true rfl) dL_refused_52 XT (List.forall_mem_cons.mpr ⟨Or.inr ⟨by decide, "java/lang/IllegalArgumentException", C.2.2.2.2.1 _ kL_refused_74, XN.1⟩, (List.forall_mem_cons.mpr ⟨Or.inr ⟨by decide, "java/lang/IllegalStateException", C.2.2.2.2.1 _ kL_refused_76, XN.2.1⟩, (fun _ h => absurd h List.not_mem_nil)⟩)⟩) (by decide) (by decide) kL_refused_78 XE.2.2.1.1.2.2 (fun q50 => ?_)
                  refine z_astore (lv' := [(5, .ref q50), (0, .ref ab), (1, .int x2), (2, .int x3), (3, .int x4), (4, .int x5)]) (zC_pad 1 C) dL_refused_130 (by decide) rfl ?_
                  refine z_iconst (v := 3) (zC_pad 1 C) dL_refused_132 (by decide) ?_
                  have hu := Option.some.inj hF
                  subst hu
                  refine z_widen (k := 1) (n := 6) (Nat.le_of_ble_eq_true rfl) (Nat.le_of_ble_eq_true rfl) ?_
                  exact z_lretg (zC_pad 1 C) (zhb_pad (A := A) C (zg1 _)) dL_refused_133 rfl rfl
                · have hF := zelse hF c49
                  exact absurd hF (fun q => nomatch q)
          · refine z_gcallV_R (n := 1) (As := [.int x3]) (ws' := (zwX7 cI cJ cZ ab a5 a3 a6 a1 a0 B P M r44.2.1 r44.2.2.1 r44.2.2.2.1 r44.2.2.2.2)) C C XE (fun _ _ h => h) (c_X7_revokeAlone l hl D cI cJ cZ ab a5 a3 a6 a1 a0 B P M T K U L x3 (.inr r44) er44) gL_refused_X7_revokeAlone rfl (by decide +kernel) ⟨Nat.le_of_ble_eq_true rfl, Nat.le_of_ble_eq_true rfl⟩ ⟨Nat.zero_le _, Nat.zero_le _⟩ 0 rfl rfl [] [] rfl rfl rfl rfl (Nat.le_of_ble_eq_true rfl) dL_refused_52 ?_
            refine z_goto (tgt := 119) C dL_refused_55 (by decide) ?_
            refine z_iconst (v := 0) C dL_refused_119 (by decide) ?_
            refine z_imul C dL_refused_120 ?_
            have hu := Option.some.inj hF
            subst hu
            refine z_widen (k := 1) (n := 6) (Nat.le_of_ble_eq_true rfl) (Nat.le_of_ble_eq_true rfl) ?_
            exact z_lretg C (zhb_0 (zg00 _)) dL_refused_121 rfl rfl
      · have hF := zif hF c3
        refine z_aload_n C dL_refused_37 rfl 0 rfl ?_
        refine z_iload_n C dL_refused_38 rfl 2 rfl ?_
        rcases zca_some hF with ⟨Er51, er51, hF⟩ | ⟨r51, er51, hF⟩
        · by_cases c52 : Er51 = "java/lang/IllegalArgumentException"
          · have hF := zif hF c52
            subst c52
            refine z_gcatchV (n := 1) (As := [.int x3]) (name := "java/lang/IllegalArgumentException") (pre9 := []) (x9 := ⟨0, 121, 122, 74⟩) (suf9 := [⟨0, 121, 126, 76⟩, ⟨0, 121, 130, 78⟩]) C XE (c_X7_revoke l hl D cI cJ cZ ab a5 a3 a6 a1 a0 B P M T K U L x3 (.inl "java/lang/IllegalArgumentException") er51) gL_refused_X7_revoke rfl (by decide +kernel) ⟨Nat.le_of_ble_eq_true rfl, Nat.le_of_ble_eq_true rfl⟩ ⟨Nat.le_refl 1, Nat.le_refl 6⟩ 0 rfl rfl [] [] rfl rfl rfl (Nat.le_of_ble_eq_true rfl) dL_refused_39 XT (fun z hz => absurd hz List.not_mem_nil) (by decide) (by decide) kL_refused_74 XE.2.2.1.1.2.1 (fun q53 => ?_)
            refine z_astore (lv' := [(5, .ref q53), (0, .ref ab), (1, .int x2), (2, .int x3), (3, .int x4), (4, .int x5)]) (zC_pad 1 C) dL_refused_122 (by decide) rfl ?_
            refine z_iconst (v := 1) (zC_pad 1 C) dL_refused_124 (by decide) ?_
            have hu := Option.some.inj hF
            subst hu
            refine z_widen (k := 1) (n := 6) (Nat.le_of_ble_eq_true rfl) (Nat.le_of_ble_eq_true rfl) ?_
            exact z_lretg (zC_pad 1 C) (zhb_pad (A := A) C (zg1 _)) dL_refused_125 rfl rfl
          · have hF := zelse hF c52
            by_cases c54 : Er51 = "java/lang/IllegalStateException"
            · have hF := zif hF c54
              subst c54
              refine z_gcatchV (n := 1) (As := [.int x3]) (name := "java/lang/IllegalStateException") (pre9 := [⟨0, 121, 122, 74⟩]) (x9 := ⟨0, 121, 126, 76⟩) (suf9 := [⟨0, 121, 130, 78⟩]) C XE (c_X7_revoke l hl D cI cJ cZ ab a5 a3 a6 a1 a0 B P M T K U L x3 (.inl "java/lang/IllegalStateException") er51) gL_refused_X7_revoke rfl (by decide +kernel) ⟨Nat.le_of_ble_eq_true rfl, Nat.le_of_ble_eq_true rfl⟩ ⟨Nat.le_refl 1, Nat.le_refl 6⟩ 0 rfl rfl [] [] rfl rfl rfl (Nat.le_of_ble_eq_true rfl) dL_refused_39 XT (List.forall_mem_cons.mpr ⟨Or.inr ⟨by decide, "java/lang/IllegalArgumentException", C.2.2.2.2.1 _ kL_refused_74, XN.2.2⟩, (fun _ h => absurd h List.not_mem_nil)⟩) (by decide) (by decide) kL_refused_76 XE.2.2.1.1.1 (fun q55 => ?_)
              refine z_astore (lv' := [(5, .ref q55), (0, .ref ab), (1, .int x2), (2, .int x3), (3, .int x4), (4, .int x5)]) (zC_pad 1 C) dL_refused_126 (by decide) rfl ?_
              refine z_iconst (v := 2) (zC_pad 1 C) dL_refused_128 (by decide) ?_
              have hu := Option.some.inj hF
              subst hu
              refine z_widen (k := 1) (n := 6) (Nat.le_of_ble_eq_true rfl) (Nat.le_of_ble_eq_true rfl) ?_
              exact z_lretg (zC_pad 1 C) (zhb_pad (A := A) C (zg1 _)) dL_refused_129 rfl rfl
            · have hF := zelse hF c54
              by_cases c56 : Er51 = "java/lang/IndexOutOfBoundsException"
              · have hF := zif hF c56
                subst c56
                refine z_gcatchV (n := 1) (As := [.int x3]) (name := "java/lang/IndexOutOfBoundsException") (pre9 := [⟨0, 121, 122, 74⟩, ⟨0, 121, 126, 76⟩]) (x9 := ⟨0, 121, 130, 78⟩) (suf9 := []) C XE (c_X7_revoke l hl D cI cJ cZ ab a5 a3 a6 a1 a0 B P M T K U L x3 (.inl "java/lang/IndexOutOfBoundsException") er51) gL_refused_X7_revoke rfl (by decide +kernel) ⟨Nat.le_of_ble_eq_true rfl, Nat.le_of_ble_eq_true rfl⟩ ⟨Nat.le_refl 1, Nat.le_refl 6⟩ 0 rfl rfl [] [] rfl rfl rfl (Nat.le_of_ble_eq_true rfl) dL_refused_39 XT (List.forall_mem_cons.mpr ⟨Or.inr ⟨by decide, "java/lang/IllegalArgumentException", C.2.2.2.2.1 _ kL_refused_74, XN.1⟩, (List.forall_mem_cons.mpr ⟨Or.inr ⟨by decide, "java/lang/IllegalStateException", C.2.2.2.2.1 _ kL_refused_76, XN.2.1⟩, (fun _ h => absurd h List.not_mem_nil)⟩)⟩) (by decide) (by decide) kL_refused_78 XE.2.2.1.1.2.2 (fun q57 => ?_)
                refine z_astore (lv' := [(5, .ref q57), (0, .ref ab), (1, .int x2), (2, .int x3), (3, .int x4), (4, .int x5)]) (zC_pad 1 C) dL_refused_130 (by decide) rfl ?_
                refine z_iconst (v := 3) (zC_pad 1 C) dL_refused_132 (by decide) ?_
                have hu := Option.some.inj hF
                subst hu
                refine z_widen (k := 1) (n := 6) (Nat.le_of_ble_eq_true rfl) (Nat.le_of_ble_eq_true rfl) ?_
                exact z_lretg (zC_pad 1 C) (zhb_pad (A := A) C (zg1 _)) dL_refused_133 rfl rfl
              · have hF := zelse hF c56
                exact absurd hF (fun q => nomatch q)
        · refine z_gcallV_R (n := 1) (As := [.int x3]) (ws' := (zwX7 cI cJ cZ ab a5 a3 a6 a1 a0 B P M r51.2.1 r51.2.2.1 r51.2.2.2.1 r51.2.2.2.2)) C C XE (fun _ _ h => h) (c_X7_revoke l hl D cI cJ cZ ab a5 a3 a6 a1 a0 B P M T K U L x3 (.inr r51) er51) gL_refused_X7_revoke rfl (by decide +kernel) ⟨Nat.le_of_ble_eq_true rfl, Nat.le_of_ble_eq_true rfl⟩ ⟨Nat.zero_le _, Nat.zero_le _⟩ 0 rfl rfl [] [] rfl rfl rfl rfl (Nat.le_of_ble_eq_true rfl) dL_refused_39 ?_
          refine z_goto (tgt := 119) C dL_refused_42 (by decide) ?_
          refine z_iconst (v := 0) C dL_refused_119 (by decide) ?_
          refine z_imul C dL_refused_120 ?_
          have hu := Option.some.inj hF
          subst hu
          refine z_widen (k := 1) (n := 6) (Nat.le_of_ble_eq_true rfl) (Nat.le_of_ble_eq_true rfl) ?_
          exact z_lretg C (zhb_0 (zg00 _)) dL_refused_121 rfl rfl
    · have hF := zif hF c2
      refine z_aload_n C dL_refused_23 rfl 0 rfl ?_
      refine z_iload_n C dL_refused_24 rfl 2 rfl ?_
      refine z_iload_n C dL_refused_25 rfl 3 rfl ?_
      rcases zca_some hF with ⟨Er58, er58, hF⟩ | ⟨r58, er58, hF⟩
      · by_cases c59 : Er58 = "java/lang/IllegalArgumentException"
        · have hF := zif hF c59
          subst c59
          refine z_gcatchV (n := 2) (As := [.int x3, .int x4]) (name := "java/lang/IllegalArgumentException") (pre9 := []) (x9 := ⟨0, 121, 122, 74⟩) (suf9 := [⟨0, 121, 126, 76⟩, ⟨0, 121, 130, 78⟩]) C XE (c_X7_renew l hl D cI cJ cZ ab a5 a3 a6 a1 a0 B P M T K U L x3 x4 (.inl "java/lang/IllegalArgumentException") er58) gL_refused_X7_renew rfl (by decide +kernel) ⟨Nat.le_of_ble_eq_true rfl, Nat.le_of_ble_eq_true rfl⟩ ⟨Nat.le_refl 1, Nat.le_refl 6⟩ 0 rfl rfl [] [] rfl rfl rfl (Nat.le_of_ble_eq_true rfl) dL_refused_26 XT (fun z hz => absurd hz List.not_mem_nil) (by decide) (by decide) kL_refused_74 XE.2.2.1.1.2.1 (fun q60 => ?_)
          refine z_astore (lv' := [(5, .ref q60), (0, .ref ab), (1, .int x2), (2, .int x3), (3, .int x4), (4, .int x5)]) (zC_pad 1 C) dL_refused_122 (by decide) rfl ?_
          refine z_iconst (v := 1) (zC_pad 1 C) dL_refused_124 (by decide) ?_
          have hu := Option.some.inj hF
          subst hu
          refine z_widen (k := 1) (n := 6) (Nat.le_of_ble_eq_true rfl) (Nat.le_of_ble_eq_true rfl) ?_
          exact z_lretg (zC_pad 1 C) (zhb_pad (A := A) C (zg1 _)) dL_refused_125 rfl rfl
        · have hF := zelse hF c59
          by_cases c61 : Er58 = "java/lang/IllegalStateException"
          · have hF := zif hF c61
            subst c61
            refine z_gcatchV (n := 2) (As := [.int x3, .int x4]) (name := "java/lang/IllegalStateException") (pre9 := [⟨0, 121, 122, 74⟩]) (x9 := ⟨0, 121, 126, 76⟩) (suf9 := [⟨0, 121, 130, 78⟩]) C XE (c_X7_renew l hl D cI cJ cZ ab a5 a3 a6 a1 a0 B P M T K U L x3 x4 (.inl "java/lang/IllegalStateException") er58) gL_refused_X7_renew rfl (by decide +kernel) ⟨Nat.le_of_ble_eq_true rfl, Nat.le_of_ble_eq_true rfl⟩ ⟨Nat.le_refl 1, Nat.le_refl 6⟩ 0 rfl rfl [] [] rfl rfl rfl (Nat.le_of_ble_eq_true rfl) dL_refused_26 XT (List.forall_mem_cons.mpr ⟨Or.inr ⟨by decide, "java/lang/IllegalArgumentException", C.2.2.2.2.1 _ kL_refused_74, XN.2.2⟩, (fun _ h => absurd h List.not_mem_nil)⟩) (by decide) (by decide) kL_refused_76 XE.2.2.1.1.1 (fun q62 => ?_)
            refine z_astore (lv' := [(5, .ref q62), (0, .ref ab), (1, .int x2), (2, .int x3), (3, .int x4), (4, .int x5)]) (zC_pad 1 C) dL_refused_126 (by decide) rfl ?_
            refine z_iconst (v := 2) (zC_pad 1 C) dL_refused_128 (by decide) ?_
            have hu := Option.some.inj hF
            subst hu
            refine z_widen (k := 1) (n := 6) (Nat.le_of_ble_eq_true rfl) (Nat.le_of_ble_eq_true rfl) ?_
            exact z_lretg (zC_pad 1 C) (zhb_pad (A := A) C (zg1 _)) dL_refused_129 rfl rfl
          · have hF := zelse hF c61
            by_cases c63 : Er58 = "java/lang/IndexOutOfBoundsException"
            · have hF := zif hF c63
              subst c63
              refine z_gcatchV (n := 2) (As := [.int x3, .int x4]) (name := "java/lang/IndexOutOfBoundsException") (pre9 := [⟨0, 121, 122, 74⟩, ⟨0, 121, 126, 76⟩]) (x9 := ⟨0, 121, 130, 78⟩) (suf9 := []) C XE (c_X7_renew l hl D cI cJ cZ ab a5 a3 a6 a1 a0 B P M T K U L x3 x4 (.inl "java/lang/IndexOutOfBoundsException") er58) gL_refused_X7_renew rfl (by decide +kernel) ⟨Nat.le_of_ble_eq_true rfl, Nat.le_of_ble_eq_true rfl⟩ ⟨Nat.le_refl 1, Nat.le_refl 6⟩ 0 rfl rfl [] [] rfl rfl rfl (Nat.le_of_ble_eq_true rfl) dL_refused_26 XT (List.forall_mem_cons.mpr ⟨Or.inr ⟨by decide, "java/lang/IllegalArgumentException", C.2.2.2.2.1 _ kL_refused_74, XN.1⟩, (List.forall_mem_cons.mpr ⟨Or.inr ⟨by decide, "java/lang/IllegalStateException", C.2.2.2.2.1 _ kL_refused_76, XN.2.1⟩, (fun _ h => absurd h List.not_mem_nil)⟩)⟩) (by decide) (by decide) kL_refused_78 XE.2.2.1.1.2.2 (fun q64 => ?_)
              refine z_astore (lv' := [(5, .ref q64), (0, .ref ab), (1, .int x2), (2, .int x3), (3, .int x4), (4, .int x5)]) (zC_pad 1 C) dL_refused_130 (by decide) rfl ?_
              refine z_iconst (v := 3) (zC_pad 1 C) dL_refused_132 (by decide) ?_
              have hu := Option.some.inj hF
              subst hu
              refine z_widen (k := 1) (n := 6) (Nat.le_of_ble_eq_true rfl) (Nat.le_of_ble_eq_true rfl) ?_
              exact z_lretg (zC_pad 1 C) (zhb_pad (A := A) C (zg1 _)) dL_refused_133 rfl rfl
            · have hF := zelse hF c63
              exact absurd hF (fun q => nomatch q)
      · refine z_gcallV_R (n := 2) (As := [.int x3, .int x4]) (ws' := (zwX7 cI cJ cZ ab a5 a3 a6 a1 a0 B P M r58.2.1 K r58.2.2.1 r58.2.2.2)) C C XE (fun _ _ h => h) (c_X7_renew l hl D cI cJ cZ ab a5 a3 a6 a1 a0 B P M T K U L x3 x4 (.inr r58) er58) gL_refused_X7_renew rfl (by decide +kernel) ⟨Nat.le_of_ble_eq_true rfl, Nat.le_of_ble_eq_true rfl⟩ ⟨Nat.zero_le _, Nat.zero_le _⟩ 0 rfl rfl [] [] rfl rfl rfl rfl (Nat.le_of_ble_eq_true rfl) dL_refused_26 ?_
        refine z_goto (tgt := 119) C dL_refused_29 (by decide) ?_
        refine z_iconst (v := 0) C dL_refused_119 (by decide) ?_
        refine z_imul C dL_refused_120 ?_
        have hu := Option.some.inj hF
        subst hu
        refine z_widen (k := 1) (n := 6) (Nat.le_of_ble_eq_true rfl) (Nat.le_of_ble_eq_true rfl) ?_
        exact z_lretg C (zhb_0 (zg00 _)) dL_refused_121 rfl rfl
  · have hF := zif hF c1
    refine z_aload_n C dL_refused_4 rfl 0 rfl ?_
    refine z_iload_n C dL_refused_5 rfl 2 rfl ?_
    refine z_iload_n C dL_refused_6 rfl 3 rfl ?_
    refine z_iload C dL_refused_7 4 rfl ?_
    refine z_iload C dL_refused_9 4 rfl ?_
    refine z_iconst (v := 0) C dL_refused_11 (by decide) ?_
    rcases zca_some hF with ⟨Er65, er65, hF⟩ | ⟨r65, er65, hF⟩
    · by_cases c66 : Er65 = "java/lang/IllegalArgumentException"
      · have hF := zif hF c66
        subst c66
        refine z_gcatchV (n := 5) (As := [.int x3, .int x4, .int x5, .int x5, .int 0]) (name := "java/lang/IllegalArgumentException") (pre9 := []) (x9 := ⟨0, 121, 122, 74⟩) (suf9 := [⟨0, 121, 126, 76⟩, ⟨0, 121, 130, 78⟩]) C XE (c_X7_create l hl D cI cJ cZ ab a5 a3 a6 a1 a0 B P M T K U L x3 x4 x5 x5 0 (.inl "java/lang/IllegalArgumentException") er65) gL_refused_X7_create rfl (by decide +kernel) ⟨Nat.le_of_ble_eq_true rfl, Nat.le_of_ble_eq_true rfl⟩ ⟨Nat.le_refl 1, Nat.le_refl 6⟩ 0 rfl rfl [] [] rfl rfl rfl (Nat.le_of_ble_eq_true rfl) dL_refused_12 XT (fun z hz => absurd hz List.not_mem_nil) (by decide) (by decide) kL_refused_74 XE.2.2.1.1.2.1 (fun q67 => ?_)
        refine z_astore (lv' := [(5, .ref q67), (0, .ref ab), (1, .int x2), (2, .int x3), (3, .int x4), (4, .int x5)]) (zC_pad 1 C) dL_refused_122 (by decide) rfl ?_
        refine z_iconst (v := 1) (zC_pad 1 C) dL_refused_124 (by decide) ?_
        have hu := Option.some.inj hF
        subst hu
        refine z_widen (k := 1) (n := 6) (Nat.le_of_ble_eq_true rfl) (Nat.le_of_ble_eq_true rfl) ?_
        exact z_lretg (zC_pad 1 C) (zhb_pad (A := A) C (zg1 _)) dL_refused_125 rfl rfl
      · have hF := zelse hF c66
        by_cases c68 : Er65 = "java/lang/IllegalStateException"
        · have hF := zif hF c68
          subst c68
          refine z_gcatchV (n := 5) (As := [.int x3, .int x4, .int x5, .int x5, .int 0]) (name := "java/lang/IllegalStateException") (pre9 := [⟨0, 121, 122, 74⟩]) (x9 := ⟨0, 121, 126, 76⟩) (suf9 := [⟨0, 121, 130, 78⟩]) C XE (c_X7_create l hl D cI cJ cZ ab a5 a3 a6 a1 a0 B P M T K U L x3 x4 x5 x5 0 (.inl "java/lang/IllegalStateException") er65) gL_refused_X7_create rfl (by decide +kernel) ⟨Nat.le_of_ble_eq_true rfl, Nat.le_of_ble_eq_true rfl⟩ ⟨Nat.le_refl 1, Nat.le_refl 6⟩ 0 rfl rfl [] [] rfl rfl rfl (Nat.le_of_ble_eq_true rfl) dL_refused_12 XT (List.forall_mem_cons.mpr ⟨Or.inr ⟨by decide, "java/lang/IllegalArgumentException", C.2.2.2.2.1 _ kL_refused_74, XN.2.2⟩, (fun _ h => absurd h List.not_mem_nil)⟩) (by decide) (by decide) kL_refused_76 XE.2.2.1.1.1 (fun q69 => ?_)
          refine z_astore (lv' := [(5, .ref q69), (0, .ref ab), (1, .int x2), (2, .int x3), (3, .int x4), (4, .int x5)]) (zC_pad 1 C) dL_refused_126 (by decide) rfl ?_
          refine z_iconst (v := 2) (zC_pad 1 C) dL_refused_128 (by decide) ?_
          have hu := Option.some.inj hF
          subst hu
          refine z_widen (k := 1) (n := 6) (Nat.le_of_ble_eq_true rfl) (Nat.le_of_ble_eq_true rfl) ?_
          exact z_lretg (zC_pad 1 C) (zhb_pad (A := A) C (zg1 _)) dL_refused_129 rfl rfl
        · have hF := zelse hF c68
          by_cases c70 : Er65 = "java/lang/IndexOutOfBoundsException"
          · have hF := zif hF c70
            subst c70
            refine z_gcatchV (n := 5) (As := [.int x3, .int x4, .int x5, .int x5, .int 0]) (name := "java/lang/IndexOutOfBoundsException") (pre9 := [⟨0, 121, 122, 74⟩, ⟨0, 121, 126, 76⟩]) (x9 := ⟨0, 121, 130, 78⟩) (suf9 := []) C XE (c_X7_create l hl D cI cJ cZ ab a5 a3 a6 a1 a0 B P M T K U L x3 x4 x5 x5 0 (.inl "java/lang/IndexOutOfBoundsException") er65) gL_refused_X7_create rfl (by decide +kernel) ⟨Nat.le_of_ble_eq_true rfl, Nat.le_of_ble_eq_true rfl⟩ ⟨Nat.le_refl 1, Nat.le_refl 6⟩ 0 rfl rfl [] [] rfl rfl rfl (Nat.le_of_ble_eq_true rfl) dL_refused_12 XT (List.forall_mem_cons.mpr ⟨Or.inr ⟨by decide, "java/lang/IllegalArgumentException", C.2.2.2.2.1 _ kL_refused_74, XN.1⟩, (List.forall_mem_cons.mpr ⟨Or.inr ⟨by decide, "java/lang/IllegalStateException", C.2.2.2.2.1 _ kL_refused_76, XN.2.1⟩, (fun _ h => absurd h List.not_mem_nil)⟩)⟩) (by decide) (by decide) kL_refused_78 XE.2.2.1.1.2.2 (fun q71 => ?_)
            refine z_astore (lv' := [(5, .ref q71), (0, .ref ab), (1, .int x2), (2, .int x3), (3, .int x4), (4, .int x5)]) (zC_pad 1 C) dL_refused_130 (by decide) rfl ?_
            refine z_iconst (v := 3) (zC_pad 1 C) dL_refused_132 (by decide) ?_
            have hu := Option.some.inj hF
            subst hu
            refine z_widen (k := 1) (n := 6) (Nat.le_of_ble_eq_true rfl) (Nat.le_of_ble_eq_true rfl) ?_
            exact z_lretg (zC_pad 1 C) (zhb_pad (A := A) C (zg1 _)) dL_refused_133 rfl rfl
          · have hF := zelse hF c70
            exact absurd hF (fun q => nomatch q)
    · refine z_gcallV_R (n := 5) (As := [.int x3, .int x4, .int x5, .int x5, .int 0]) (ws' := (zwX7 cI cJ cZ ab a5 a3 a6 a1 a0 B P M r65.2.1 K r65.2.2.1 r65.2.2.2)) C C XE (fun _ _ h => h) (c_X7_create l hl D cI cJ cZ ab a5 a3 a6 a1 a0 B P M T K U L x3 x4 x5 x5 0 (.inr r65) er65) gL_refused_X7_create rfl (by decide +kernel) ⟨Nat.le_of_ble_eq_true rfl, Nat.le_of_ble_eq_true rfl⟩ ⟨Nat.zero_le _, Nat.zero_le _⟩ 0 rfl rfl [] [] rfl rfl rfl rfl (Nat.le_of_ble_eq_true rfl) dL_refused_12 ?_
      refine z_goto (tgt := 119) C dL_refused_15 (by decide) ?_
      refine z_iconst (v := 0) C dL_refused_119 (by decide) ?_
      refine z_imul C dL_refused_120 ?_
      have hu := Option.some.inj hF
      subst hu
      refine z_widen (k := 1) (n := 6) (Nat.le_of_ble_eq_true rfl) (Nat.le_of_ble_eq_true rfl) ?_
      exact z_lretg C (zhb_0 (zg00 _)) dL_refused_121 rfl rfl
theorem kL_writes_80 : Cond.constantLong RL 80 (31) ∈ wsL_writes := by decide +kernel
theorem kL_writes_82 : Cond.constantLong RL 82 (1000003) ∈ wsL_writes := by decide +kernel
set_option maxHeartbeats 4000000 in
set_option maxRecDepth 100000 in
theorem c_L_writes (l : Launch) (hl : l.stackTraces = false) (D : va_G) (cI cJ cZ : ClassId) (ab : Nat) (a5 : Nat → Nat) (a3 : Nat → Nat) (a6 : Nat → Nat) (a1 : Nat → Nat) (a0 : Nat → Nat) (aw : Nat → Nat) (B : SS) (P : SS) (M : SS) (T : SS) (K : SS) (U : SS) (W : SS) (L : SL) (O : SL) (x2 : Int32) (x3 : Int32) (x4 : Int32) (u : Int32 × SS × SL) (hF : f_L_writes U L W O x2 x3 x4 = some u) : zL l yL_writes wsL_writes 8 134 0 0 D (zTy cI cJ cZ) [.ref ab, .int x2, .int x3, .int x4, .ref (aw 0), .ref (aw 7)] (zwX7 cI cJ cZ ab a5 a3 a6 a1 a0 B P M T K U L ++ zwW cI cJ cZ aw W O) (some (.int u.1)) (zwX7 cI cJ cZ ab a5 a3 a6 a1 a0 B P M T K U L ++ zwW cI cJ cZ aw u.2.1 u.2.2) 0 := by
  refine z_lbody (cc := cL_writes) (maxL := 7) (rty := (some .boolean)) (own := RL) (lv := [(0, .ref ab), (1, .int x2), (2, .int x3), (3, .int x4), (4, .ref (aw 0)), (5, .ref (aw 7))]) (by decide +kernel) rfl rfl (Nat.le_of_ble_eq_true rfl) rfl (fun p e s m args below meth c A C XE XN => ?_)
  refine z_aload C dL_writes_0 5 rfl ?_
  refine z_iconst (v := 0) C dL_writes_2 (by decide) ?_
  refine z_ldc2 (v := 31) C kL_writes_80 dL_writes_3 ?_
  refine z_aload C dL_writes_6 5 rfl ?_
  refine z_iconst (v := 0) C dL_writes_8 (by decide) ?_
  obtain ⟨g1, hF⟩ := zix_some hF
  refine z_lald (v := (O (0 : Int32).toNatClampNeg)) C g1 37 rfl rfl rfl dL_writes_9 ?_
  refine z_lmul C dL_writes_10 ?_
  refine z_bipush (v := 7) C dL_writes_11 (by decide) ?_
  refine z_iload_n C dL_writes_13 rfl 1 rfl ?_
  refine z_imul C dL_writes_14 ?_
  refine z_i2l C dL_writes_15 ?_
  refine z_ladd C dL_writes_16 ?_
  refine z_iconst (v := 5) C dL_writes_17 (by decide) ?_
  refine z_iload_n C dL_writes_18 rfl 2 rfl ?_
  refine z_imul C dL_writes_19 ?_
  refine z_i2l C dL_writes_20 ?_
  refine z_ladd C dL_writes_21 ?_
  refine z_iconst (v := 3) C dL_writes_22 (by decide) ?_
  refine z_iload_n C dL_writes_23 rfl 3 rfl ?_
  refine z_imul C dL_writes_24 ?_
  refine z_i2l C dL_writes_25 ?_
  refine z_ladd C dL_writes_26 ?_
  refine z_aload C dL_writes_27 4 rfl ?_
  refine z_iconst (v := 0) C dL_writes_29 (by decide) ?_
  obtain ⟨g2, hF⟩ := zix_some hF
  refine z_iald (v := ((W 0) (0 : Int32).toNatClampNeg)) C g2 30 rfl rfl rfl dL_writes_30 ?_
  refine z_i2l C dL_writes_31 ?_
  refine z_ladd C dL_writes_32 ?_
  refine z_ldc2 (v := 1000003) C kL_writes_82 dL_writes_33 ?_
  refine z_lrem C dL_writes_36 (by decide) ?_
  obtain ⟨g3, hF⟩ := zix_some hF
  refine z_last (ws' := (zwX7 cI cJ cZ ab a5 a3 a6 a1 a0 B P M T K U L ++ zwW cI cJ cZ aw W (vp_updL O (0 : Int32).toNatClampNeg ((((((31 * (O (0 : Int32).toNatClampNeg)) + (((7 * x2)).toInt64)) + (((5 * x3)).toInt64)) + (((3 * x4)).toInt64)) + ((((W 0) (0 : Int32).toNatClampNeg)).toInt64)) - (((((31 * (O (0 : Int32).toNatClampNeg)) + (((7 * x2)).toInt64)) + (((5 * x3)).toInt64)) + (((3 * x4)).toInt64)) + ((((W 0) (0 : Int32).toNatClampNeg)).toInt64)) / 1000003 * 1000003)))) C g3 37 rfl rfl dL_writes_37 (zq_W_7 cI cJ cZ ab a5 a3 a6 a1 a0 B P M T K U L aw W O ((0 : Int32).toNatClampNeg) ((((((31 * (O (0 : Int32).toNatClampNeg)) + (((7 * x2)).toInt64)) + (((5 * x3)).toInt64)) + (((3 * x4)).toInt64)) + ((((W 0) (0 : Int32).toNatClampNeg)).toInt64)) - (((((31 * (O (0 : Int32).toNatClampNeg)) + (((7 * x2)).toInt64)) + (((5 * x3)).toInt64)) + (((3 * x4)).toInt64)) + ((((W 0) (0 : Int32).toNatClampNeg)).toInt64)) / 1000003 * 1000003)) ?_
  refine z_aload C dL_writes_38 4 rfl ?_
  refine z_iconst (v := 5) C dL_writes_40 (by decide) ?_
  obtain ⟨g4, hF⟩ := zix_some hF
  refine z_iald (v := ((W 0) (5 : Int32).toNatClampNeg)) C g4 30 rfl rfl rfl dL_writes_41 ?_
  refine z_istore (lv' := [(6, .int ((W 0) (5 : Int32).toNatClampNeg)), (0, .ref ab), (1, .int x2), (2, .int x3), (3, .int x4), (4, .ref (aw 0)), (5, .ref (aw 7))]) C dL_writes_42 (by decide) rfl ?_
  refine z_aload C dL_writes_44 5 rfl ?_
  refine z_iconst (v := 5) C dL_writes_46 (by decide) ?_
  refine z_iload C dL_writes_47 0 rfl ?_
  refine z_iconst (v := 1) C dL_writes_49 (by decide) ?_
  refine z_iadd C dL_writes_50 ?_
  obtain ⟨g5, hF⟩ := zix_some hF
  refine z_iast (ws' := (zwX7 cI cJ cZ ab a5 a3 a6 a1 a0 B P M T K U L ++ zwW cI cJ cZ aw (za W 0 5 (((W 0) (5 : Int32).toNatClampNeg) + 1)) (vp_updL O (0 : Int32).toNatClampNeg ((((((31 * (O (0 : Int32).toNatClampNeg)) + (((7 * x2)).toInt64)) + (((5 * x3)).toInt64)) + (((3 * x4)).toInt64)) + ((((W 0) (0 : Int32).toNatClampNeg)).toInt64)) - (((((31 * (O (0 : Int32).toNatClampNeg)) + (((7 * x2)).toInt64)) + (((5 * x3)).toInt64)) + (((3 * x4)).toInt64)) + ((((W 0) (0 : Int32).toNatClampNeg)).toInt64)) / 1000003 * 1000003)))) C g5 30 rfl rfl dL_writes_51 (za_row W 0 5 (((W 0) (5 : Int32).toNatClampNeg) + 1)) (zq_W_0 cI cJ cZ ab a5 a3 a6 a1 a0 B P M T K U L aw W (vp_updL O (0 : Int32).toNatClampNeg ((((((31 * (O (0 : Int32).toNatClampNeg)) + (((7 * x2)).toInt64)) + (((5 * x3)).toInt64)) + (((3 * x4)).toInt64)) + ((((W 0) (0 : Int32).toNatClampNeg)).toInt64)) - (((((31 * (O (0 : Int32).toNatClampNeg)) + (((7 * x2)).toInt64)) + (((5 * x3)).toInt64)) + (((3 * x4)).toInt64)) + ((((W 0) (0 : Int32).toNatClampNeg)).toInt64)) / 1000003 * 1000003)) 5 (((W 0) (5 : Int32).toNatClampNeg) + 1)) ?_
  refine z_aload_n C dL_writes_52 rfl 1 rfl ?_
  obtain ⟨r6, er6, hF⟩ := zbd hF
  refine z_callV (n := 0) (As := []) (ws' := (zwX7 cI cJ cZ ab a5 a3 a6 a1 a0 B P M T K U L ++ zwW cI cJ cZ aw (za W 0 5 (((W 0) (5 : Int32).toNatClampNeg) + 1)) (vp_updL O (0 : Int32).toNatClampNeg ((((((31 * (O (0 : Int32).toNatClampNeg)) + (((7 * x2)).toInt64)) + (((5 * x3)).toInt64)) + (((3 * x4)).toInt64)) + ((((W 0) (0 : Int32).toNatClampNeg)).toInt64)) - (((((31 * (O (0 : Int32).toNatClampNeg)) + (((7 * x2)).toInt64)) + (((5 * x3)).toInt64)) + (((3 * x4)).toInt64)) + ((((W 0) (0 : Int32).toNatClampNeg)).toInt64)) / 1000003 * 1000003)))) C (c_X7_entries l D cI cJ cZ ab a5 a3 a6 a1 a0 B P M T K U L r6 er6) gL_writes_X7_entries rfl rfl rfl (by decide +kernel) ⟨Nat.le_of_ble_eq_true rfl, Nat.le_of_ble_eq_true rfl⟩ ⟨Nat.zero_le _, Nat.zero_le _⟩ 0 rfl rfl [] (zwW cI cJ cZ aw (za W 0 5 (((W 0) (5 : Int32).toNatClampNeg) + 1)) (vp_updL O (0 : Int32).toNatClampNeg ((((((31 * (O (0 : Int32).toNatClampNeg)) + (((7 * x2)).toInt64)) + (((5 * x3)).toInt64)) + (((3 * x4)).toInt64)) + ((((W 0) (0 : Int32).toNatClampNeg)).toInt64)) - (((((31 * (O (0 : Int32).toNatClampNeg)) + (((7 * x2)).toInt64)) + (((5 * x3)).toInt64)) + (((3 * x4)).toInt64)) + ((((W 0) (0 : Int32).toNatClampNeg)).toInt64)) / 1000003 * 1000003))) rfl rfl rfl rfl (Nat.le_of_ble_eq_true rfl) dL_writes_53 ?_
  refine z_iload C dL_writes_56 0 rfl ?_
  refine z_iconst (v := 1) C dL_writes_58 (by decide) ?_
  refine z_iadd C dL_writes_59 ?_
  refine z_icmp_ne (tgt := 111) C dL_writes_60 (by decide) (fun c7 => ?_) (fun c7 => ?_)
  · have hF := zelse hF c7
    refine z_iconst (v := 0) C dL_writes_111 (by decide) ?_
    have hu := Option.some.inj hF
    subst hu
    refine z_widen (k := 0) (n := 0) (Nat.le_of_ble_eq_true rfl) (Nat.le_of_ble_eq_true rfl) ?_
    exact z_lretg C (zhb_0 (Nat.le_refl 0)) dL_writes_112 rfl z_b0
  · have hF := zif hF c7
    refine z_aload_n C dL_writes_63 rfl 1 rfl ?_
    refine z_iload C dL_writes_64 0 rfl ?_
    obtain ⟨r8, er8, hF⟩ := zok_some hF
    refine z_gcallV_R (n := 1) (As := [.int ((W 0) (5 : Int32).toNatClampNeg)]) (ws' := (zwX7 cI cJ cZ ab a5 a3 a6 a1 a0 B P M T K U L ++ zwW cI cJ cZ aw (za W 0 5 (((W 0) (5 : Int32).toNatClampNeg) + 1)) (vp_updL O (0 : Int32).toNatClampNeg ((((((31 * (O (0 : Int32).toNatClampNeg)) + (((7 * x2)).toInt64)) + (((5 * x3)).toInt64)) + (((3 * x4)).toInt64)) + ((((W 0) (0 : Int32).toNatClampNeg)).toInt64)) - (((((31 * (O (0 : Int32).toNatClampNeg)) + (((7 * x2)).toInt64)) + (((5 * x3)).toInt64)) + (((3 * x4)).toInt64)) + ((((W 0) (0 : Int32).toNatClampNeg)).toInt64)) / 1000003 * 1000003)))) C C XE (fun _ _ h => h) (c_X7_kindOf l hl D cI cJ cZ ab a5 a3 a6 a1 a0 B P M T K U L ((W 0) (5 : Int32).toNatClampNeg) (.inr r8) er8) gL_writes_X7_kindOf rfl (by decide +kernel) ⟨Nat.le_of_ble_eq_true rfl, Nat.le_of_ble_eq_true rfl⟩ ⟨Nat.zero_le _, Nat.zero_le _⟩ 0 rfl rfl [] (zwW cI cJ cZ aw (za W 0 5 (((W 0) (5 : Int32).toNatClampNeg) + 1)) (vp_updL O (0 : Int32).toNatClampNeg ((((((31 * (O (0 : Int32).toNatClampNeg)) + (((7 * x2)).toInt64)) + (((5 * x3)).toInt64)) + (((3 * x4)).toInt64)) + ((((W 0) (0 : Int32).toNatClampNeg)).toInt64)) - (((((31 * (O (0 : Int32).toNatClampNeg)) + (((7 * x2)).toInt64)) + (((5 * x3)).toInt64)) + (((3 * x4)).toInt64)) + ((((W 0) (0 : Int32).toNatClampNeg)).toInt64)) / 1000003 * 1000003))) rfl rfl rfl rfl (Nat.le_of_ble_eq_true rfl) dL_writes_66 ?_
    refine z_iload_n C dL_writes_69 rfl 2 rfl ?_
    refine z_icmp_ne (tgt := 111) C dL_writes_70 (by decide) (fun c9 => ?_) (fun c9 => ?_)
    · have hF := zelse hF c9
      refine z_iconst (v := 0) C dL_writes_111 (by decide) ?_
      have hu := Option.some.inj hF
      subst hu
      refine z_widen (k := 0) (n := 0) (Nat.le_of_ble_eq_true rfl) (Nat.le_of_ble_eq_true rfl) ?_
      exact z_lretg C (zhb_0 (Nat.le_refl 0)) dL_writes_112 rfl z_b0
    · have hF := zif hF c9
      refine z_aload_n C dL_writes_73 rfl 1 rfl ?_
      refine z_iload C dL_writes_74 0 rfl ?_
      obtain ⟨r10, er10, hF⟩ := zok_some hF
      refine z_gcallV_R (n := 1) (As := [.int ((W 0) (5 : Int32).toNatClampNeg)]) (ws' := (zwX7 cI cJ cZ ab a5 a3 a6 a1 a0 B P M T K U L ++ zwW cI cJ cZ aw (za W 0 5 (((W 0) (5 : Int32).toNatClampNeg) + 1)) (vp_updL O (0 : Int32).toNatClampNeg ((((((31 * (O (0 : Int32).toNatClampNeg)) + (((7 * x2)).toInt64)) + (((5 * x3)).toInt64)) + (((3 * x4)).toInt64)) + ((((W 0) (0 : Int32).toNatClampNeg)).toInt64)) - (((((31 * (O (0 : Int32).toNatClampNeg)) + (((7 * x2)).toInt64)) + (((5 * x3)).toInt64)) + (((3 * x4)).toInt64)) + ((((W 0) (0 : Int32).toNatClampNeg)).toInt64)) / 1000003 * 1000003)))) C C XE (fun _ _ h => h) (c_X7_subjectOf l hl D cI cJ cZ ab a5 a3 a6 a1 a0 B P M T K U L ((W 0) (5 : Int32).toNatClampNeg) (.inr r10) er10) gL_writes_X7_subjectOf rfl (by decide +kernel) ⟨Nat.le_of_ble_eq_true rfl, Nat.le_of_ble_eq_true rfl⟩ ⟨Nat.zero_le _, Nat.zero_le _⟩ 0 rfl rfl [] (zwW cI cJ cZ aw (za W 0 5 (((W 0) (5 : Int32).toNatClampNeg) + 1)) (vp_updL O (0 : Int32).toNatClampNeg ((((((31 * (O (0 : Int32).toNatClampNeg)) + (((7 * x2)).toInt64)) + (((5 * x3)).toInt64)) + (((3 * x4)).toInt64)) + ((((W 0) (0 : Int32).toNatClampNeg)).toInt64)) - (((((31 * (O (0 : Int32).toNatClampNeg)) + (((7 * x2)).toInt64)) + (((5 * x3)).toInt64)) + (((3 * x4)).toInt64)) + ((((W 0) (0 : Int32).toNatClampNeg)).toInt64)) / 1000003 * 1000003))) rfl rfl rfl rfl (Nat.le_of_ble_eq_true rfl) dL_writes_76 ?_
      refine z_iload_n C dL_writes_79 rfl 3 rfl ?_
      refine z_icmp_ne (tgt := 111) C dL_writes_80 (by decide) (fun c11 => ?_) (fun c11 => ?_)
      · have hF := zelse hF c11
        refine z_iconst (v := 0) C dL_writes_111 (by decide) ?_
        have hu := Option.some.inj hF
        subst hu
        refine z_widen (k := 0) (n := 0) (Nat.le_of_ble_eq_true rfl) (Nat.le_of_ble_eq_true rfl) ?_
        exact z_lretg C (zhb_0 (Nat.le_refl 0)) dL_writes_112 rfl z_b0
      · have hF := zif hF c11
        refine z_aload_n C dL_writes_83 rfl 1 rfl ?_
        refine z_iload C dL_writes_84 0 rfl ?_
        obtain ⟨r12, er12, hF⟩ := zok_some hF
        refine z_gcallV_R (n := 1) (As := [.int ((W 0) (5 : Int32).toNatClampNeg)]) (ws' := (zwX7 cI cJ cZ ab a5 a3 a6 a1 a0 B P M T K U L ++ zwW cI cJ cZ aw (za W 0 5 (((W 0) (5 : Int32).toNatClampNeg) + 1)) (vp_updL O (0 : Int32).toNatClampNeg ((((((31 * (O (0 : Int32).toNatClampNeg)) + (((7 * x2)).toInt64)) + (((5 * x3)).toInt64)) + (((3 * x4)).toInt64)) + ((((W 0) (0 : Int32).toNatClampNeg)).toInt64)) - (((((31 * (O (0 : Int32).toNatClampNeg)) + (((7 * x2)).toInt64)) + (((5 * x3)).toInt64)) + (((3 * x4)).toInt64)) + ((((W 0) (0 : Int32).toNatClampNeg)).toInt64)) / 1000003 * 1000003)))) C C XE (fun _ _ h => h) (c_X7_detailOf l hl D cI cJ cZ ab a5 a3 a6 a1 a0 B P M T K U L ((W 0) (5 : Int32).toNatClampNeg) (.inr r12) er12) gL_writes_X7_detailOf rfl (by decide +kernel) ⟨Nat.le_of_ble_eq_true rfl, Nat.le_of_ble_eq_true rfl⟩ ⟨Nat.zero_le _, Nat.zero_le _⟩ 0 rfl rfl [] (zwW cI cJ cZ aw (za W 0 5 (((W 0) (5 : Int32).toNatClampNeg) + 1)) (vp_updL O (0 : Int32).toNatClampNeg ((((((31 * (O (0 : Int32).toNatClampNeg)) + (((7 * x2)).toInt64)) + (((5 * x3)).toInt64)) + (((3 * x4)).toInt64)) + ((((W 0) (0 : Int32).toNatClampNeg)).toInt64)) - (((((31 * (O (0 : Int32).toNatClampNeg)) + (((7 * x2)).toInt64)) + (((5 * x3)).toInt64)) + (((3 * x4)).toInt64)) + ((((W 0) (0 : Int32).toNatClampNeg)).toInt64)) / 1000003 * 1000003))) rfl rfl rfl rfl (Nat.le_of_ble_eq_true rfl) dL_writes_86 ?_
        refine z_iload_n C dL_writes_89 rfl 4 rfl ?_
        refine z_icmp_ne (tgt := 111) C dL_writes_90 (by decide) (fun c13 => ?_) (fun c13 => ?_)
        · have hF := zelse hF c13
          refine z_iconst (v := 0) C dL_writes_111 (by decide) ?_
          have hu := Option.some.inj hF
          subst hu
          refine z_widen (k := 0) (n := 0) (Nat.le_of_ble_eq_true rfl) (Nat.le_of_ble_eq_true rfl) ?_
          exact z_lretg C (zhb_0 (Nat.le_refl 0)) dL_writes_112 rfl z_b0
        · have hF := zif hF c13
          refine z_aload_n C dL_writes_93 rfl 1 rfl ?_
          refine z_iload C dL_writes_94 0 rfl ?_
          obtain ⟨r14, er14, hF⟩ := zok_some hF
          refine z_gcallV_R (n := 1) (As := [.int ((W 0) (5 : Int32).toNatClampNeg)]) (ws' := (zwX7 cI cJ cZ ab a5 a3 a6 a1 a0 B P M T K U L ++ zwW cI cJ cZ aw (za W 0 5 (((W 0) (5 : Int32).toNatClampNeg) + 1)) (vp_updL O (0 : Int32).toNatClampNeg ((((((31 * (O (0 : Int32).toNatClampNeg)) + (((7 * x2)).toInt64)) + (((5 * x3)).toInt64)) + (((3 * x4)).toInt64)) + ((((W 0) (0 : Int32).toNatClampNeg)).toInt64)) - (((((31 * (O (0 : Int32).toNatClampNeg)) + (((7 * x2)).toInt64)) + (((5 * x3)).toInt64)) + (((3 * x4)).toInt64)) + ((((W 0) (0 : Int32).toNatClampNeg)).toInt64)) / 1000003 * 1000003)))) C C XE (fun _ _ h => h) (c_X7_sumOf l hl D cI cJ cZ ab a5 a3 a6 a1 a0 B P M T K U L ((W 0) (5 : Int32).toNatClampNeg) (.inr r14) er14) gL_writes_X7_sumOf rfl (by decide +kernel) ⟨Nat.le_of_ble_eq_true rfl, Nat.le_of_ble_eq_true rfl⟩ ⟨Nat.zero_le _, Nat.zero_le _⟩ 0 rfl rfl [] (zwW cI cJ cZ aw (za W 0 5 (((W 0) (5 : Int32).toNatClampNeg) + 1)) (vp_updL O (0 : Int32).toNatClampNeg ((((((31 * (O (0 : Int32).toNatClampNeg)) + (((7 * x2)).toInt64)) + (((5 * x3)).toInt64)) + (((3 * x4)).toInt64)) + ((((W 0) (0 : Int32).toNatClampNeg)).toInt64)) - (((((31 * (O (0 : Int32).toNatClampNeg)) + (((7 * x2)).toInt64)) + (((5 * x3)).toInt64)) + (((3 * x4)).toInt64)) + ((((W 0) (0 : Int32).toNatClampNeg)).toInt64)) / 1000003 * 1000003))) rfl rfl rfl rfl (Nat.le_of_ble_eq_true rfl) dL_writes_96 ?_
          refine z_aload C dL_writes_99 6 rfl ?_
          refine z_iconst (v := 0) C dL_writes_101 (by decide) ?_
          obtain ⟨g15, hF⟩ := zix_some hF
          refine z_lald (v := ((vp_updL O (0 : Int32).toNatClampNeg ((((((31 * (O (0 : Int32).toNatClampNeg)) + (((7 * x2)).toInt64)) + (((5 * x3)).toInt64)) + (((3 * x4)).toInt64)) + ((((W 0) (0 : Int32).toNatClampNeg)).toInt64)) - (((((31 * (O (0 : Int32).toNatClampNeg)) + (((7 * x2)).toInt64)) + (((5 * x3)).toInt64)) + (((3 * x4)).toInt64)) + ((((W 0) (0 : Int32).toNatClampNeg)).toInt64)) / 1000003 * 1000003)) (0 : Int32).toNatClampNeg)) C g15 37 rfl rfl rfl dL_writes_102 ?_
          refine z_lcmp C dL_writes_103 ?_
          refine z_if_ne (tgt := 111) C dL_writes_104 (by decide) (fun c16 => ?_) (fun c16 => ?_)
          · have hF := zelse hF c16
            refine z_iconst (v := 0) C dL_writes_111 (by decide) ?_
            have hu := Option.some.inj hF
            subst hu
            refine z_widen (k := 0) (n := 0) (Nat.le_of_ble_eq_true rfl) (Nat.le_of_ble_eq_true rfl) ?_
            exact z_lretg C (zhb_0 (Nat.le_refl 0)) dL_writes_112 rfl z_b0
          · have hF := zif hF c16
            refine z_iconst (v := 1) C dL_writes_107 (by decide) ?_
            refine z_goto (tgt := 112) C dL_writes_108 (by decide) ?_
            have hu := Option.some.inj hF
            subst hu
            refine z_widen (k := 0) (n := 0) (Nat.le_of_ble_eq_true rfl) (Nat.le_of_ble_eq_true rfl) ?_
            exact z_lretg C (zhb_0 (Nat.le_refl 0)) dL_writes_112 rfl z_b1
set_option maxHeartbeats 4000000 in
set_option maxRecDepth 100000 in
theorem c_L_same_j335 (l : Launch) (hl : l.stackTraces = false) (D : va_G) (cI cJ cZ : ClassId) (ab : Nat) (a5 : Nat → Nat) (a3 : Nat → Nat) (a6 : Nat → Nat) (a1 : Nat → Nat) (a0 : Nat → Nat) (aw : Nat → Nat) (B : SS) (P : SS) (M : SS) (T : SS) (K : SS) (U : SS) (W : SS) (L : SL) (O : SL) (u : Int32 × SS × SS × SS × SL) {p : Program} {e : Env} {s : State} {m : MethodId} {args : Array Value} {below : List Frame} {meth : Method} {c : Code} {A : Nat → Prop} (C : zC p s m args meth c cL_same 11 (some .boolean) RL wsL_same D (zTy cI cJ cZ) A s.heap) (XE : zE A s s.heap) (XN : zN s) : ∀ (n : Nat) (Tc : SS) (Kc : SS) (Uc : SS) (Lc : SL) (v5 : Int32) (v6 : Int32) (v7 : Int32) (v8 : Int32) (v9 : Int32), f_L_same_335 B P M W n Tc Kc Uc Lc v5 v6 v7 v8 v9 = some u → zW p l e { frames := 10, cells := 3, slots := 18, locals := 194 } s m args below meth c 11 D A s.heap 0 0 (vx_MQ below (zQg D (zTy cI cJ cZ) (some (.int u.1)) (zwX7 cI cJ cZ ab a5 a3 a6 a1 a0 B P M u.2.1 u.2.2.1 u.2.2.2.1 u.2.2.2.2 ++ zwW cI cJ cZ aw W O) (if u.1 = 0 then 0 else 3) A) (fun _ _ _ => False) args s 3 18 A) (zwX7 cI cJ cZ ab a5 a3 a6 a1 a0 B P M Tc Kc Uc Lc ++ zwW cI cJ cZ aw W O) [(0, .ref ab), (2, .ref (aw 0)), (3, .ref (aw 1)), (4, .ref (aw 2)), (5, .int v5), (6, .int v6), (7, .int v7), (8, .int v8), (9, .int v9)] 335 [] := by
  intro n
  induction n with
  | zero => intro Tc Kc Uc Lc v5 v6 v7 v8 v9 hF; exact absurd (show none = some u from hF) (fun q => nomatch q)
  | succ n ih =>
    intro Tc Kc Uc Lc v5 v6 v7 v8 v9 hF
    refine z_iload C dL_same_335 8 rfl ?_
    refine z_aload_n C dL_same_337 rfl 1 rfl ?_
    refine z_iconst (v := 4) C dL_same_338 (by decide) ?_
    obtain ⟨g9, hF⟩ := zix_some hF
    refine z_iald (v := ((W 0) (4 : Int32).toNatClampNeg)) C g9 30 rfl rfl rfl dL_same_339 ?_
    refine z_icmp_ge (tgt := 383) C dL_same_340 (by decide) (fun c10 => ?_) (fun c10 => ?_)
    · have hF := zif hF c10
      refine z_aload_n C dL_same_383 rfl 0 rfl ?_
      refine z_iload C dL_same_384 5 rfl ?_
      obtain ⟨r11, er11, hF⟩ := zok_some hF
      refine z_gcallV_R (n := 1) (As := [.int v6]) (ws' := (zwX7 cI cJ cZ ab a5 a3 a6 a1 a0 B P M Tc Kc Uc Lc ++ zwW cI cJ cZ aw W O)) C C XE (fun _ _ h => h) (c_X7_below l hl D cI cJ cZ ab a5 a3 a6 a1 a0 B P M Tc Kc Uc Lc v6 (.inr r11) er11) gL_same_X7_below rfl (by decide +kernel) ⟨Nat.le_of_ble_eq_true rfl, Nat.le_of_ble_eq_true rfl⟩ ⟨Nat.zero_le _, Nat.zero_le _⟩ 0 rfl rfl [] (zwW cI cJ cZ aw W O) rfl rfl rfl rfl (Nat.le_of_ble_eq_true rfl) dL_same_386 ?_
      refine z_iload C dL_same_389 6 rfl ?_
      refine z_icmp_ne (tgt := 449) C dL_same_391 (by decide) (fun c12 => ?_) (fun c12 => ?_)
      · have hF := zelse hF c12
        refine z_iconst (v := 0) C dL_same_449 (by decide) ?_
        have hu := Option.some.inj hF
        subst hu
        refine z_widen (k := 3) (n := 18) (Nat.le_of_ble_eq_true rfl) (Nat.le_of_ble_eq_true rfl) ?_
        exact z_lretg C (zhb_0 (Nat.le_refl 0)) dL_same_450 rfl z_b0
      · have hF := zif hF c12
        refine z_aload_n C dL_same_394 rfl 0 rfl ?_
        refine z_iload C dL_same_395 5 rfl ?_
        obtain ⟨r13, er13, hF⟩ := zok_some hF
        refine z_gcallV_R (n := 1) (As := [.int v6]) (ws' := (zwX7 cI cJ cZ ab a5 a3 a6 a1 a0 B P M Tc Kc Uc Lc ++ zwW cI cJ cZ aw W O)) C C XE (fun _ _ h => h) (c_X7_credentialsOf l hl D cI cJ cZ ab a5 a3 a6 a1 a0 B P M Tc Kc Uc Lc v6 (.inr r13) er13) gL_same_X7_credentialsOf rfl (by decide +kernel) ⟨Nat.le_of_ble_eq_true rfl, Nat.le_of_ble_eq_true rfl⟩ ⟨Nat.zero_le _, Nat.zero_le _⟩ 0 rfl rfl [] (zwW cI cJ cZ aw W O) rfl rfl rfl rfl (Nat.le_of_ble_eq_true rfl) dL_same_397 ?_
        refine z_iload C dL_same_400 7 rfl ?_
        refine z_icmp_ne (tgt := 449) C dL_same_402 (by decide) (fun c14 => ?_) (fun c14 => ?_)
        · have hF := zelse hF c14
          refine z_iconst (v := 0) C dL_same_449 (by decide) ?_
          have hu := Option.some.inj hF
          subst hu
          refine z_widen (k := 3) (n := 18) (Nat.le_of_ble_eq_true rfl) (Nat.le_of_ble_eq_true rfl) ?_
          exact z_lretg C (zhb_0 (Nat.le_refl 0)) dL_same_450 rfl z_b0
        · have hF := zif hF c14
          refine z_aload_n C dL_same_405 rfl 0 rfl ?_
          refine z_iconst (v := 5) C dL_same_406 (by decide) ?_
          refine z_aload_n C dL_same_407 rfl 1 rfl ?_
          refine z_iconst (v := 3) C dL_same_408 (by decide) ?_
          obtain ⟨g15, hF⟩ := zix_some hF
          refine z_iald (v := ((W 0) (3 : Int32).toNatClampNeg)) C g15 30 rfl rfl rfl dL_same_409 ?_
          refine z_iconst (v := 0) C dL_same_410 (by decide) ?_
          refine z_iconst (v := 0) C dL_same_411 (by decide) ?_
          obtain ⟨r16, er16, hF⟩ := zbd hF
          refine z_pad0 C ?_
          refine z_gcallH (N := 0) (n := 5) (As := [.ref ab, .int 5, .int ((W 0) (3 : Int32).toNatClampNeg), .int 0, .int 0]) (ws' := (zwX7 cI cJ cZ ab a5 a3 a6 a1 a0 B P M r16.2.1 r16.2.2.1 r16.2.2.2.1 r16.2.2.2.2 ++ zwW cI cJ cZ aw W O)) C XE XN (c_L_refused l hl D cI cJ cZ ab a5 a3 a6 a1 a0 B P M Tc Kc Uc Lc 5 ((W 0) (3 : Int32).toNatClampNeg) 0 0 r16 er16) gL_same_L_refused rfl (by decide +kernel) ⟨Nat.le_of_ble_eq_true rfl, Nat.le_of_ble_eq_true rfl⟩ ⟨Nat.le_of_ble_eq_true rfl, Nat.le_of_ble_eq_true rfl⟩ [] (zwW cI cJ cZ aw W O) rfl rfl rfl rfl (Nat.le_of_ble_eq_true rfl) dL_same_412 ?_
          refine z_iconst (v := 3) (zC_pad (0 + (if r16.1 = 0 then 0 else 1)) C) dL_same_415 (by decide) ?_
          refine z_icmp_ne (tgt := 449) (zC_pad (0 + (if r16.1 = 0 then 0 else 1)) C) dL_same_416 (by decide) (fun c17 => ?_) (fun c17 => ?_)
          · have hF := zelse hF c17
            refine z_iconst (v := 0) (zC_pad (0 + (if r16.1 = 0 then 0 else 1)) C) dL_same_449 (by decide) ?_
            have hu := Option.some.inj hF
            subst hu
            refine z_widen (k := 3) (n := 18) (Nat.le_of_ble_eq_true rfl) (Nat.le_of_ble_eq_true rfl) ?_
            exact z_lretg (zC_pad (0 + (if r16.1 = 0 then 0 else 1)) C) (zhb_pad C (Nat.zero_le _)) dL_same_450 rfl z_b0
          · have hF := zif hF c17
            refine z_aload_n (zC_pad (0 + (if r16.1 = 0 then 0 else 1)) C) dL_same_419 rfl 0 rfl ?_
            refine z_bipush (v := 6) (zC_pad (0 + (if r16.1 = 0 then 0 else 1)) C) dL_same_420 (by decide) ?_
            refine z_aload_n (zC_pad (0 + (if r16.1 = 0 then 0 else 1)) C) dL_same_422 rfl 1 rfl ?_
            refine z_iconst (v := 4) (zC_pad (0 + (if r16.1 = 0 then 0 else 1)) C) dL_same_423 (by decide) ?_
            obtain ⟨g18, hF⟩ := zix_some hF
            refine z_iald (v := ((W 0) (4 : Int32).toNatClampNeg)) (zC_pad (0 + (if r16.1 = 0 then 0 else 1)) C) g18 30 rfl rfl rfl dL_same_424 ?_
            refine z_iconst (v := 0) (zC_pad (0 + (if r16.1 = 0 then 0 else 1)) C) dL_same_425 (by decide) ?_
            refine z_iconst (v := 0) (zC_pad (0 + (if r16.1 = 0 then 0 else 1)) C) dL_same_426 (by decide) ?_
            obtain ⟨r19, er19, hF⟩ := zbd hF
            refine z_gcallH (N := (0 + (if r16.1 = 0 then 0 else 1))) (n := 5) (As := [.ref ab, .int 6, .int ((W 0) (4 : Int32).toNatClampNeg), .int 0, .int 0]) (ws' := (zwX7 cI cJ cZ ab a5 a3 a6 a1 a0 B P M r19.2.1 r19.2.2.1 r19.2.2.2.1 r19.2.2.2.2 ++ zwW cI cJ cZ aw W O)) C XE XN (c_L_refused l hl D cI cJ cZ ab a5 a3 a6 a1 a0 B P M r16.2.1 r16.2.2.1 r16.2.2.2.1 r16.2.2.2.2 6 ((W 0) (4 : Int32).toNatClampNeg) 0 0 r19 er19) gL_same_L_refused rfl (by decide +kernel) ⟨Nat.le_of_ble_eq_true rfl, Nat.le_of_ble_eq_true rfl⟩ ⟨Nat.le_of_ble_eq_true rfl, Nat.le_of_ble_eq_true rfl⟩ [] (zwW cI cJ cZ aw W O) rfl rfl rfl rfl (Nat.le_of_ble_eq_true rfl) dL_same_427 ?_
            refine z_iconst (v := 3) (zC_pad ((0 + (if r16.1 = 0 then 0 else 1)) + (if r19.1 = 0 then 0 else 1)) C) dL_same_430 (by decide) ?_
            refine z_icmp_ne (tgt := 449) (zC_pad ((0 + (if r16.1 = 0 then 0 else 1)) + (if r19.1 = 0 then 0 else 1)) C) dL_same_431 (by decide) (fun c20 => ?_) (fun c20 => ?_)
            · have hF := zelse hF c20
              refine z_iconst (v := 0) (zC_pad ((0 + (if r16.1 = 0 then 0 else 1)) + (if r19.1 = 0 then 0 else 1)) C) dL_same_449 (by decide) ?_
              have hu := Option.some.inj hF
              subst hu
              refine z_widen (k := 3) (n := 18) (Nat.le_of_ble_eq_true rfl) (Nat.le_of_ble_eq_true rfl) ?_
              exact z_lretg (zC_pad ((0 + (if r16.1 = 0 then 0 else 1)) + (if r19.1 = 0 then 0 else 1)) C) (zhb_pad C (Nat.zero_le _)) dL_same_450 rfl z_b0
            · have hF := zif hF c20
              refine z_aload_n (zC_pad ((0 + (if r16.1 = 0 then 0 else 1)) + (if r19.1 = 0 then 0 else 1)) C) dL_same_434 rfl 0 rfl ?_
              refine z_bipush (v := 8) (zC_pad ((0 + (if r16.1 = 0 then 0 else 1)) + (if r19.1 = 0 then 0 else 1)) C) dL_same_435 (by decide) ?_
              refine z_aload_n (zC_pad ((0 + (if r16.1 = 0 then 0 else 1)) + (if r19.1 = 0 then 0 else 1)) C) dL_same_437 rfl 1 rfl ?_
              refine z_iconst (v := 5) (zC_pad ((0 + (if r16.1 = 0 then 0 else 1)) + (if r19.1 = 0 then 0 else 1)) C) dL_same_438 (by decide) ?_
              obtain ⟨g21, hF⟩ := zix_some hF
              refine z_iald (v := ((W 0) (5 : Int32).toNatClampNeg)) (zC_pad ((0 + (if r16.1 = 0 then 0 else 1)) + (if r19.1 = 0 then 0 else 1)) C) g21 30 rfl rfl rfl dL_same_439 ?_
              refine z_iconst (v := 0) (zC_pad ((0 + (if r16.1 = 0 then 0 else 1)) + (if r19.1 = 0 then 0 else 1)) C) dL_same_440 (by decide) ?_
              refine z_iconst (v := 0) (zC_pad ((0 + (if r16.1 = 0 then 0 else 1)) + (if r19.1 = 0 then 0 else 1)) C) dL_same_441 (by decide) ?_
              obtain ⟨r22, er22, hF⟩ := zbd hF
              refine z_gcallH (N := ((0 + (if r16.1 = 0 then 0 else 1)) + (if r19.1 = 0 then 0 else 1))) (n := 5) (As := [.ref ab, .int 8, .int ((W 0) (5 : Int32).toNatClampNeg), .int 0, .int 0]) (ws' := (zwX7 cI cJ cZ ab a5 a3 a6 a1 a0 B P M r22.2.1 r22.2.2.1 r22.2.2.2.1 r22.2.2.2.2 ++ zwW cI cJ cZ aw W O)) C XE XN (c_L_refused l hl D cI cJ cZ ab a5 a3 a6 a1 a0 B P M r19.2.1 r19.2.2.1 r19.2.2.2.1 r19.2.2.2.2 8 ((W 0) (5 : Int32).toNatClampNeg) 0 0 r22 er22) gL_same_L_refused rfl (by decide +kernel) ⟨Nat.le_of_ble_eq_true rfl, Nat.le_of_ble_eq_true rfl⟩ ⟨Nat.le_of_ble_eq_true rfl, Nat.le_of_ble_eq_true rfl⟩ [] (zwW cI cJ cZ aw W O) rfl rfl rfl rfl (Nat.le_of_ble_eq_true rfl) dL_same_442 ?_
              refine z_iconst (v := 3) (zC_pad (((0 + (if r16.1 = 0 then 0 else 1)) + (if r19.1 = 0 then 0 else 1)) + (if r22.1 = 0 then 0 else 1)) C) dL_same_445 (by decide) ?_
              refine z_icmp_eq (tgt := 451) (zC_pad (((0 + (if r16.1 = 0 then 0 else 1)) + (if r19.1 = 0 then 0 else 1)) + (if r22.1 = 0 then 0 else 1)) C) dL_same_446 (by decide) (fun c23 => ?_) (fun c23 => ?_)
              · have hF := zif hF c23
                refine z_aload_n (zC_pad (((0 + (if r16.1 = 0 then 0 else 1)) + (if r19.1 = 0 then 0 else 1)) + (if r22.1 = 0 then 0 else 1)) C) dL_same_451 rfl 0 rfl ?_
                obtain ⟨r24, er24, hF⟩ := zbd hF
                refine z_callV (n := 0) (As := []) (ws' := (zwX7 cI cJ cZ ab a5 a3 a6 a1 a0 B P M r22.2.1 r22.2.2.1 r22.2.2.2.1 r22.2.2.2.2 ++ zwW cI cJ cZ aw W O)) (zC_pad (((0 + (if r16.1 = 0 then 0 else 1)) + (if r19.1 = 0 then 0 else 1)) + (if r22.1 = 0 then 0 else 1)) C) (c_X7_tokens l D cI cJ cZ ab a5 a3 a6 a1 a0 B P M r22.2.1 r22.2.2.1 r22.2.2.2.1 r22.2.2.2.2 r24 er24) gL_same_X7_tokens rfl rfl rfl (by decide +kernel) ⟨Nat.le_of_ble_eq_true rfl, Nat.le_of_ble_eq_true rfl⟩ ⟨Nat.le_of_ble_eq_true rfl, Nat.le_of_ble_eq_true rfl⟩ 0 rfl rfl [] (zwW cI cJ cZ aw W O) rfl rfl rfl rfl (Nat.le_of_ble_eq_true rfl) dL_same_452 ?_
                refine z_aload_n (zC_pad (((0 + (if r16.1 = 0 then 0 else 1)) + (if r19.1 = 0 then 0 else 1)) + (if r22.1 = 0 then 0 else 1)) C) dL_same_455 rfl 1 rfl ?_
                refine z_aload_n (zC_pad (((0 + (if r16.1 = 0 then 0 else 1)) + (if r19.1 = 0 then 0 else 1)) + (if r22.1 = 0 then 0 else 1)) C) dL_same_456 rfl 2 rfl ?_
                obtain ⟨r25, er25, hF⟩ := zbd hF
                refine z_callSW (n := 2) (As := [.ref (aw 0), .ref (aw 1)]) (ws' := (zwX7 cI cJ cZ ab a5 a3 a6 a1 a0 B P M r22.2.1 r22.2.2.1 r22.2.2.2.1 r22.2.2.2.2 ++ zwW cI cJ cZ aw W O)) (zC_pad (((0 + (if r16.1 = 0 then 0 else 1)) + (if r19.1 = 0 then 0 else 1)) + (if r22.1 = 0 then 0 else 1)) C) (c_L_living l D cI cJ cZ aw W O r25 er25) gL_same_L_living rfl rfl rfl (by decide +kernel) ⟨Nat.le_of_ble_eq_true rfl, Nat.le_of_ble_eq_true rfl⟩ ⟨Nat.le_of_ble_eq_true rfl, Nat.le_of_ble_eq_true rfl⟩ (zwX7 cI cJ cZ ab a5 a3 a6 a1 a0 B P M r22.2.1 r22.2.2.1 r22.2.2.2.1 r22.2.2.2.2) [] zAs5 zAs6 rfl rfl (Nat.le_of_ble_eq_true rfl) dL_same_457 ?_
                refine z_icmp_ne (tgt := 510) (zC_pad (((0 + (if r16.1 = 0 then 0 else 1)) + (if r19.1 = 0 then 0 else 1)) + (if r22.1 = 0 then 0 else 1)) C) dL_same_460 (by decide) (fun c26 => ?_) (fun c26 => ?_)
                · have hF := zelse hF c26
                  refine z_iconst (v := 0) (zC_pad (((0 + (if r16.1 = 0 then 0 else 1)) + (if r19.1 = 0 then 0 else 1)) + (if r22.1 = 0 then 0 else 1)) C) dL_same_510 (by decide) ?_
                  have hu := Option.some.inj hF
                  subst hu
                  refine z_widen (k := 3) (n := 18) (Nat.le_of_ble_eq_true rfl) (Nat.le_of_ble_eq_true rfl) ?_
                  exact z_lretg (zC_pad (((0 + (if r16.1 = 0 then 0 else 1)) + (if r19.1 = 0 then 0 else 1)) + (if r22.1 = 0 then 0 else 1)) C) (zhb_pad C (Nat.zero_le _)) dL_same_511 rfl z_b0
                · have hF := zif hF c26
                  refine z_aload_n (zC_pad (((0 + (if r16.1 = 0 then 0 else 1)) + (if r19.1 = 0 then 0 else 1)) + (if r22.1 = 0 then 0 else 1)) C) dL_same_463 rfl 0 rfl ?_
                  obtain ⟨r27, er27, hF⟩ := zbd hF
                  refine z_callV (n := 0) (As := []) (ws' := (zwX7 cI cJ cZ ab a5 a3 a6 a1 a0 B P M r22.2.1 r22.2.2.1 r22.2.2.2.1 r22.2.2.2.2 ++ zwW cI cJ cZ aw W O)) (zC_pad (((0 + (if r16.1 = 0 then 0 else 1)) + (if r19.1 = 0 then 0 else 1)) + (if r22.1 = 0 then 0 else 1)) C) (c_X7_credentials l D cI cJ cZ ab a5 a3 a6 a1 a0 B P M r22.2.1 r22.2.2.1 r22.2.2.2.1 r22.2.2.2.2 r27 er27) gL_same_X7_credentials rfl rfl rfl (by decide +kernel) ⟨Nat.le_of_ble_eq_true rfl, Nat.le_of_ble_eq_true rfl⟩ ⟨Nat.le_of_ble_eq_true rfl, Nat.le_of_ble_eq_true rfl⟩ 0 rfl rfl [] (zwW cI cJ cZ aw W O) rfl rfl rfl rfl (Nat.le_of_ble_eq_true rfl) dL_same_464 ?_
                  refine z_aload_n (zC_pad (((0 + (if r16.1 = 0 then 0 else 1)) + (if r19.1 = 0 then 0 else 1)) + (if r22.1 = 0 then 0 else 1)) C) dL_same_467 rfl 1 rfl ?_
                  refine z_aload_n (zC_pad (((0 + (if r16.1 = 0 then 0 else 1)) + (if r19.1 = 0 then 0 else 1)) + (if r22.1 = 0 then 0 else 1)) C) dL_same_468 rfl 2 rfl ?_
                  refine z_aload (zC_pad (((0 + (if r16.1 = 0 then 0 else 1)) + (if r19.1 = 0 then 0 else 1)) + (if r22.1 = 0 then 0 else 1)) C) dL_same_469 3 rfl ?_
                  obtain ⟨r28, er28, hF⟩ := zbd hF
                  refine z_callSW (n := 3) (As := [.ref (aw 0), .ref (aw 1), .ref (aw 2)]) (ws' := (zwX7 cI cJ cZ ab a5 a3 a6 a1 a0 B P M r22.2.1 r22.2.2.1 r22.2.2.2.1 r22.2.2.2.2 ++ zwW cI cJ cZ aw W O)) (zC_pad (((0 + (if r16.1 = 0 then 0 else 1)) + (if r19.1 = 0 then 0 else 1)) + (if r22.1 = 0 then 0 else 1)) C) (c_L_working l D cI cJ cZ aw W O r28 er28) gL_same_L_working rfl rfl rfl (by decide +kernel) ⟨Nat.le_of_ble_eq_true rfl, Nat.le_of_ble_eq_true rfl⟩ ⟨Nat.le_of_ble_eq_true rfl, Nat.le_of_ble_eq_true rfl⟩ (zwX7 cI cJ cZ ab a5 a3 a6 a1 a0 B P M r22.2.1 r22.2.2.1 r22.2.2.2.1 r22.2.2.2.2) [] zAs5 zAs6 rfl rfl (Nat.le_of_ble_eq_true rfl) dL_same_471 ?_
                  refine z_icmp_ne (tgt := 510) (zC_pad (((0 + (if r16.1 = 0 then 0 else 1)) + (if r19.1 = 0 then 0 else 1)) + (if r22.1 = 0 then 0 else 1)) C) dL_same_474 (by decide) (fun c29 => ?_) (fun c29 => ?_)
                  · have hF := zelse hF c29
                    refine z_iconst (v := 0) (zC_pad (((0 + (if r16.1 = 0 then 0 else 1)) + (if r19.1 = 0 then 0 else 1)) + (if r22.1 = 0 then 0 else 1)) C) dL_same_510 (by decide) ?_
                    have hu := Option.some.inj hF
                    subst hu
                    refine z_widen (k := 3) (n := 18) (Nat.le_of_ble_eq_true rfl) (Nat.le_of_ble_eq_true rfl) ?_
                    exact z_lretg (zC_pad (((0 + (if r16.1 = 0 then 0 else 1)) + (if r19.1 = 0 then 0 else 1)) + (if r22.1 = 0 then 0 else 1)) C) (zhb_pad C (Nat.zero_le _)) dL_same_511 rfl z_b0
                  · have hF := zif hF c29
                    refine z_aload_n (zC_pad (((0 + (if r16.1 = 0 then 0 else 1)) + (if r19.1 = 0 then 0 else 1)) + (if r22.1 = 0 then 0 else 1)) C) dL_same_477 rfl 0 rfl ?_
                    obtain ⟨r30, er30, hF⟩ := zbd hF
                    refine z_callV (n := 0) (As := []) (ws' := (zwX7 cI cJ cZ ab a5 a3 a6 a1 a0 B P M r22.2.1 r22.2.2.1 r22.2.2.2.1 r22.2.2.2.2 ++ zwW cI cJ cZ aw W O)) (zC_pad (((0 + (if r16.1 = 0 then 0 else 1)) + (if r19.1 = 0 then 0 else 1)) + (if r22.1 = 0 then 0 else 1)) C) (c_X7_nextEnd l D cI cJ cZ ab a5 a3 a6 a1 a0 B P M r22.2.1 r22.2.2.1 r22.2.2.2.1 r22.2.2.2.2 r30 er30) gL_same_X7_nextEnd rfl rfl rfl (by decide +kernel) ⟨Nat.le_of_ble_eq_true rfl, Nat.le_of_ble_eq_true rfl⟩ ⟨Nat.le_of_ble_eq_true rfl, Nat.le_of_ble_eq_true rfl⟩ 0 rfl rfl [] (zwW cI cJ cZ aw W O) rfl rfl rfl rfl (Nat.le_of_ble_eq_true rfl) dL_same_478 ?_
                    refine z_iload (zC_pad (((0 + (if r16.1 = 0 then 0 else 1)) + (if r19.1 = 0 then 0 else 1)) + (if r22.1 = 0 then 0 else 1)) C) dL_same_481 4 rfl ?_
                    refine z_icmp_ne (tgt := 510) (zC_pad (((0 + (if r16.1 = 0 then 0 else 1)) + (if r19.1 = 0 then 0 else 1)) + (if r22.1 = 0 then 0 else 1)) C) dL_same_483 (by decide) (fun c31 => ?_) (fun c31 => ?_)
                    · have hF := zelse hF c31
                      refine z_iconst (v := 0) (zC_pad (((0 + (if r16.1 = 0 then 0 else 1)) + (if r19.1 = 0 then 0 else 1)) + (if r22.1 = 0 then 0 else 1)) C) dL_same_510 (by decide) ?_
                      have hu := Option.some.inj hF
                      subst hu
                      refine z_widen (k := 3) (n := 18) (Nat.le_of_ble_eq_true rfl) (Nat.le_of_ble_eq_true rfl) ?_
                      exact z_lretg (zC_pad (((0 + (if r16.1 = 0 then 0 else 1)) + (if r19.1 = 0 then 0 else 1)) + (if r22.1 = 0 then 0 else 1)) C) (zhb_pad C (Nat.zero_le _)) dL_same_511 rfl z_b0
                    · have hF := zif hF c31
                      refine z_aload_n (zC_pad (((0 + (if r16.1 = 0 then 0 else 1)) + (if r19.1 = 0 then 0 else 1)) + (if r22.1 = 0 then 0 else 1)) C) dL_same_486 rfl 0 rfl ?_
                      obtain ⟨r32, er32, hF⟩ := zbd hF
                      refine z_callV (n := 0) (As := []) (ws' := (zwX7 cI cJ cZ ab a5 a3 a6 a1 a0 B P M r22.2.1 r22.2.2.1 r22.2.2.2.1 r22.2.2.2.2 ++ zwW cI cJ cZ aw W O)) (zC_pad (((0 + (if r16.1 = 0 then 0 else 1)) + (if r19.1 = 0 then 0 else 1)) + (if r22.1 = 0 then 0 else 1)) C) (c_X7_time l D cI cJ cZ ab a5 a3 a6 a1 a0 B P M r22.2.1 r22.2.2.1 r22.2.2.2.1 r22.2.2.2.2 r32 er32) gL_same_X7_time rfl rfl rfl (by decide +kernel) ⟨Nat.le_of_ble_eq_true rfl, Nat.le_of_ble_eq_true rfl⟩ ⟨Nat.le_of_ble_eq_true rfl, Nat.le_of_ble_eq_true rfl⟩ 0 rfl rfl [] (zwW cI cJ cZ aw W O) rfl rfl rfl rfl (Nat.le_of_ble_eq_true rfl) dL_same_487 ?_
                      refine z_aload_n (zC_pad (((0 + (if r16.1 = 0 then 0 else 1)) + (if r19.1 = 0 then 0 else 1)) + (if r22.1 = 0 then 0 else 1)) C) dL_same_490 rfl 1 rfl ?_
                      refine z_iconst (v := 0) (zC_pad (((0 + (if r16.1 = 0 then 0 else 1)) + (if r19.1 = 0 then 0 else 1)) + (if r22.1 = 0 then 0 else 1)) C) dL_same_491 (by decide) ?_
                      obtain ⟨g33, hF⟩ := zix_some hF
                      refine z_iald (v := ((W 0) (0 : Int32).toNatClampNeg)) (zC_pad (((0 + (if r16.1 = 0 then 0 else 1)) + (if r19.1 = 0 then 0 else 1)) + (if r22.1 = 0 then 0 else 1)) C) g33 30 rfl rfl rfl dL_same_492 ?_
                      refine z_icmp_ne (tgt := 510) (zC_pad (((0 + (if r16.1 = 0 then 0 else 1)) + (if r19.1 = 0 then 0 else 1)) + (if r22.1 = 0 then 0 else 1)) C) dL_same_493 (by decide) (fun c34 => ?_) (fun c34 => ?_)
                      · have hF := zelse hF c34
                        refine z_iconst (v := 0) (zC_pad (((0 + (if r16.1 = 0 then 0 else 1)) + (if r19.1 = 0 then 0 else 1)) + (if r22.1 = 0 then 0 else 1)) C) dL_same_510 (by decide) ?_
                        have hu := Option.some.inj hF
                        subst hu
                        refine z_widen (k := 3) (n := 18) (Nat.le_of_ble_eq_true rfl) (Nat.le_of_ble_eq_true rfl) ?_
                        exact z_lretg (zC_pad (((0 + (if r16.1 = 0 then 0 else 1)) + (if r19.1 = 0 then 0 else 1)) + (if r22.1 = 0 then 0 else 1)) C) (zhb_pad C (Nat.zero_le _)) dL_same_511 rfl z_b0
                      · have hF := zif hF c34
                        refine z_aload_n (zC_pad (((0 + (if r16.1 = 0 then 0 else 1)) + (if r19.1 = 0 then 0 else 1)) + (if r22.1 = 0 then 0 else 1)) C) dL_same_496 rfl 0 rfl ?_
                        obtain ⟨r35, er35, hF⟩ := zbd hF
                        refine z_callV (n := 0) (As := []) (ws' := (zwX7 cI cJ cZ ab a5 a3 a6 a1 a0 B P M r22.2.1 r22.2.2.1 r22.2.2.2.1 r22.2.2.2.2 ++ zwW cI cJ cZ aw W O)) (zC_pad (((0 + (if r16.1 = 0 then 0 else 1)) + (if r19.1 = 0 then 0 else 1)) + (if r22.1 = 0 then 0 else 1)) C) (c_X7_entries l D cI cJ cZ ab a5 a3 a6 a1 a0 B P M r22.2.1 r22.2.2.1 r22.2.2.2.1 r22.2.2.2.2 r35 er35) gL_same_X7_entries rfl rfl rfl (by decide +kernel) ⟨Nat.le_of_ble_eq_true rfl, Nat.le_of_ble_eq_true rfl⟩ ⟨Nat.le_of_ble_eq_true rfl, Nat.le_of_ble_eq_true rfl⟩ 0 rfl rfl [] (zwW cI cJ cZ aw W O) rfl rfl rfl rfl (Nat.le_of_ble_eq_true rfl) dL_same_497 ?_
                        refine z_aload_n (zC_pad (((0 + (if r16.1 = 0 then 0 else 1)) + (if r19.1 = 0 then 0 else 1)) + (if r22.1 = 0 then 0 else 1)) C) dL_same_500 rfl 1 rfl ?_
                        refine z_iconst (v := 5) (zC_pad (((0 + (if r16.1 = 0 then 0 else 1)) + (if r19.1 = 0 then 0 else 1)) + (if r22.1 = 0 then 0 else 1)) C) dL_same_501 (by decide) ?_
                        obtain ⟨g36, hF⟩ := zix_some hF
                        refine z_iald (v := ((W 0) (5 : Int32).toNatClampNeg)) (zC_pad (((0 + (if r16.1 = 0 then 0 else 1)) + (if r19.1 = 0 then 0 else 1)) + (if r22.1 = 0 then 0 else 1)) C) g36 30 rfl rfl rfl dL_same_502 ?_
                        refine z_icmp_ne (tgt := 510) (zC_pad (((0 + (if r16.1 = 0 then 0 else 1)) + (if r19.1 = 0 then 0 else 1)) + (if r22.1 = 0 then 0 else 1)) C) dL_same_503 (by decide) (fun c37 => ?_) (fun c37 => ?_)
                        · have hF := zelse hF c37
                          refine z_iconst (v := 0) (zC_pad (((0 + (if r16.1 = 0 then 0 else 1)) + (if r19.1 = 0 then 0 else 1)) + (if r22.1 = 0 then 0 else 1)) C) dL_same_510 (by decide) ?_
                          have hu := Option.some.inj hF
                          subst hu
                          refine z_widen (k := 3) (n := 18) (Nat.le_of_ble_eq_true rfl) (Nat.le_of_ble_eq_true rfl) ?_
                          exact z_lretg (zC_pad (((0 + (if r16.1 = 0 then 0 else 1)) + (if r19.1 = 0 then 0 else 1)) + (if r22.1 = 0 then 0 else 1)) C) (zhb_pad C (Nat.zero_le _)) dL_same_511 rfl z_b0
                        · have hF := zif hF c37
                          refine z_iconst (v := 1) (zC_pad (((0 + (if r16.1 = 0 then 0 else 1)) + (if r19.1 = 0 then 0 else 1)) + (if r22.1 = 0 then 0 else 1)) C) dL_same_506 (by decide) ?_
                          refine z_goto (tgt := 511) (zC_pad (((0 + (if r16.1 = 0 then 0 else 1)) + (if r19.1 = 0 then 0 else 1)) + (if r22.1 = 0 then 0 else 1)) C) dL_same_507 (by decide) ?_
                          have hu := Option.some.inj hF
                          subst hu
                          refine z_widen (k := 3) (n := 18) (Nat.le_of_ble_eq_true rfl) (Nat.le_of_ble_eq_true rfl) ?_
                          exact z_lretg (zC_pad (((0 + (if r16.1 = 0 then 0 else 1)) + (if r19.1 = 0 then 0 else 1)) + (if r22.1 = 0 then 0 else 1)) C) (zhb_pad C (zg3 (by assumption) (by assumption) (by assumption))) dL_same_511 rfl z_b1
              · have hF := zelse hF c23
                refine z_iconst (v := 0) (zC_pad (((0 + (if r16.1 = 0 then 0 else 1)) + (if r19.1 = 0 then 0 else 1)) + (if r22.1 = 0 then 0 else 1)) C) dL_same_449 (by decide) ?_
                have hu := Option.some.inj hF
                subst hu
                refine z_widen (k := 3) (n := 18) (Nat.le_of_ble_eq_true rfl) (Nat.le_of_ble_eq_true rfl) ?_
                exact z_lretg (zC_pad (((0 + (if r16.1 = 0 then 0 else 1)) + (if r19.1 = 0 then 0 else 1)) + (if r22.1 = 0 then 0 else 1)) C) (zhb_pad C (Nat.zero_le _)) dL_same_450 rfl z_b0
    · have hF := zelse hF c10
      refine z_iload C dL_same_343 7 rfl ?_
      refine z_aload C dL_same_345 3 rfl ?_
      refine z_iconst (v := 5) C dL_same_347 (by decide) ?_
      refine z_iload C dL_same_348 8 rfl ?_
      refine z_imul C dL_same_350 ?_
      obtain ⟨g38, hF⟩ := zix_some hF
      refine z_iald (v := ((W 2) (5 * v9).toNatClampNeg)) C g38 32 rfl rfl rfl dL_same_351 ?_
      refine z_iload C dL_same_352 5 rfl ?_
      refine z_icmp_ne (tgt := 373) C dL_same_354 (by decide) (fun c39 => ?_) (fun c39 => ?_)
      · have hF := zelse hF c39
        refine z_iconst (v := 0) C dL_same_373 (by decide) ?_
        refine z_iadd C dL_same_374 ?_
        refine z_istore (lv' := [(8, .int (v8 + 0)), (0, .ref ab), (2, .ref (aw 0)), (3, .ref (aw 1)), (4, .ref (aw 2)), (5, .int v5), (6, .int v6), (7, .int v7), (9, .int v9)]) C dL_same_375 (by decide) rfl ?_
        refine z_iinc (v := (v9 + 1)) (lv' := [(9, .int (v9 + 1)), (8, .int (v8 + 0)), (0, .ref ab), (2, .ref (aw 0)), (3, .ref (aw 1)), (4, .ref (aw 2)), (5, .int v5), (6, .int v6), (7, .int v7)]) C dL_same_377 8 rfl rfl (by decide) rfl ?_
        refine z_goto (tgt := 335) C dL_same_380 (by decide) ?_
        exact z_sub C [2, 3, 4, 5, 6, 7, 8, 1, 0] rfl (ih Tc Kc Uc Lc v5 v6 v7 (v8 + 0) (v9 + 1) hF)
      · have hF := zif hF c39
        refine z_iload C dL_same_357 8 rfl ?_
        refine z_aload_n C dL_same_359 rfl 1 rfl ?_
        refine z_aload_n C dL_same_360 rfl 2 rfl ?_
        refine z_aload C dL_same_361 3 rfl ?_
        obtain ⟨r40, er40, hF⟩ := zbd hF
        refine z_callSW (n := 4) (As := [.int v9, .ref (aw 0), .ref (aw 1), .ref (aw 2)]) (ws' := (zwX7 cI cJ cZ ab a5 a3 a6 a1 a0 B P M Tc Kc Uc Lc ++ zwW cI cJ cZ aw W O)) C (c_L_works l D cI cJ cZ aw W O v9 r40 er40) gL_same_L_works rfl rfl rfl (by decide +kernel) ⟨Nat.le_of_ble_eq_true rfl, Nat.le_of_ble_eq_true rfl⟩ ⟨Nat.zero_le _, Nat.zero_le _⟩ (zwX7 cI cJ cZ ab a5 a3 a6 a1 a0 B P M Tc Kc Uc Lc) [] zAs5 zAs6 rfl rfl (Nat.le_of_ble_eq_true rfl) dL_same_363 ?_
        refine z_if_eq (tgt := 373) C dL_same_366 (by decide) (fun c41 => ?_) (fun c41 => ?_)
        · have hF := zif hF c41
          refine z_iconst (v := 0) C dL_same_373 (by decide) ?_
          refine z_iadd C dL_same_374 ?_
          refine z_istore (lv' := [(8, .int (v8 + 0)), (0, .ref ab), (2, .ref (aw 0)), (3, .ref (aw 1)), (4, .ref (aw 2)), (5, .int v5), (6, .int v6), (7, .int v7), (9, .int v9)]) C dL_same_375 (by decide) rfl ?_
          refine z_iinc (v := (v9 + 1)) (lv' := [(9, .int (v9 + 1)), (8, .int (v8 + 0)), (0, .ref ab), (2, .ref (aw 0)), (3, .ref (aw 1)), (4, .ref (aw 2)), (5, .int v5), (6, .int v6), (7, .int v7)]) C dL_same_377 8 rfl rfl (by decide) rfl ?_
          refine z_goto (tgt := 335) C dL_same_380 (by decide) ?_
          exact z_sub C [2, 3, 4, 5, 6, 7, 8, 1, 0] rfl (ih Tc Kc Uc Lc v5 v6 v7 (v8 + 0) (v9 + 1) hF)
        · have hF := zelse hF c41
          refine z_iconst (v := 1) C dL_same_369 (by decide) ?_
          refine z_goto (tgt := 374) C dL_same_370 (by decide) ?_
          refine z_iadd C dL_same_374 ?_
          refine z_istore (lv' := [(8, .int (v8 + 1)), (0, .ref ab), (2, .ref (aw 0)), (3, .ref (aw 1)), (4, .ref (aw 2)), (5, .int v5), (6, .int v6), (7, .int v7), (9, .int v9)]) C dL_same_375 (by decide) rfl ?_
          refine z_iinc (v := (v9 + 1)) (lv' := [(9, .int (v9 + 1)), (8, .int (v8 + 1)), (0, .ref ab), (2, .ref (aw 0)), (3, .ref (aw 1)), (4, .ref (aw 2)), (5, .int v5), (6, .int v6), (7, .int v7)]) C dL_same_377 8 rfl rfl (by decide) rfl ?_
          refine z_goto (tgt := 335) C dL_same_380 (by decide) ?_
          exact z_sub C [2, 3, 4, 5, 6, 7, 8, 1, 0] rfl (ih Tc Kc Uc Lc v5 v6 v7 (v8 + 1) (v9 + 1) hF)
set_option maxHeartbeats 4000000 in
set_option maxRecDepth 100000 in
theorem c_L_same_j286 (l : Launch) (hl : l.stackTraces = false) (D : va_G) (cI cJ cZ : ClassId) (ab : Nat) (a5 : Nat → Nat) (a3 : Nat → Nat) (a6 : Nat → Nat) (a1 : Nat → Nat) (a0 : Nat → Nat) (aw : Nat → Nat) (B : SS) (P : SS) (M : SS) (T : SS) (K : SS) (U : SS) (W : SS) (L : SL) (O : SL) (u : Int32 × SS × SS × SS × SL) {p : Program} {e : Env} {s : State} {m : MethodId} {args : Array Value} {below : List Frame} {meth : Method} {c : Code} {A : Nat → Prop} (C : zC p s m args meth c cL_same 11 (some .boolean) RL wsL_same D (zTy cI cJ cZ) A s.heap) (XE : zE A s s.heap) (XN : zN s) : ∀ (k256 : SS → SS → SS → SL → Int32 → Int32 → Int32 → Int32 → Int32 → Option (Int32 × SS × SS × SS × SL)) (hk256 : ∀ (Tc : SS) (Kc : SS) (Uc : SS) (Lc : SL) (v5 : Int32) (v6 : Int32) (v7 : Int32) (v8 : Int32) (v9 : Int32), k256 Tc Kc Uc Lc v5 v6 v7 v8 v9 = some u → zW p l e { frames := 10, cells := 3, slots := 18, locals := 194 } s m args below meth c 11 D A s.heap 0 0 (vx_MQ below (zQg D (zTy cI cJ cZ) (some (.int u.1)) (zwX7 cI cJ cZ ab a5 a3 a6 a1 a0 B P M u.2.1 u.2.2.1 u.2.2.2.1 u.2.2.2.2 ++ zwW cI cJ cZ aw W O) (if u.1 = 0 then 0 else 3) A) (fun _ _ _ => False) args s 3 18 A) (zwX7 cI cJ cZ ab a5 a3 a6 a1 a0 B P M Tc Kc Uc Lc ++ zwW cI cJ cZ aw W O) [(0, .ref ab), (2, .ref (aw 0)), (3, .ref (aw 1)), (4, .ref (aw 2)), (5, .int v5), (6, .int v6), (7, .int v7), (8, .int v8), (9, .int v9)] 256 []), ∀ (n : Nat) (Tc : SS) (Kc : SS) (Uc : SS) (Lc : SL) (v5 : Int32) (v6 : Int32) (v7 : Int32) (v8 : Int32) (v9 : Int32) (v10 : Int32), f_L_same_286 B P M W k256 n Tc Kc Uc Lc v5 v6 v7 v8 v9 v10 = some u → zW p l e { frames := 10, cells := 3, slots := 18, locals := 194 } s m args below meth c 11 D A s.heap 0 0 (vx_MQ below (zQg D (zTy cI cJ cZ) (some (.int u.1)) (zwX7 cI cJ cZ ab a5 a3 a6 a1 a0 B P M u.2.1 u.2.2.1 u.2.2.2.1 u.2.2.2.2 ++ zwW cI cJ cZ aw W O) (if u.1 = 0 then 0 else 3) A) (fun _ _ _ => False) args s 3 18 A) (zwX7 cI cJ cZ ab a5 a3 a6 a1 a0 B P M Tc Kc Uc Lc ++ zwW cI cJ cZ aw W O) [(0, .ref ab), (2, .ref (aw 0)), (3, .ref (aw 1)), (4, .ref (aw 2)), (5, .int v5), (6, .int v6), (7, .int v7), (8, .int v8), (9, .int v9), (10, .int v10)] 286 [] := by
  intro k256 hk256
  intro n
  induction n with
  | zero => intro Tc Kc Uc Lc v5 v6 v7 v8 v9 v10 hF; exact absurd (show none = some u from hF) (fun q => nomatch q)
  | succ n ih =>
    intro Tc Kc Uc Lc v5 v6 v7 v8 v9 v10 hF
    refine z_iload C dL_same_286 9 rfl ?_
    refine z_if_lt (tgt := 309) C dL_same_288 (by decide) (fun c44 => ?_) (fun c44 => ?_)
    · have hF := zif hF c44
      refine z_iload C dL_same_309 6 rfl ?_
      refine z_iload C dL_same_311 9 rfl ?_
      refine z_iload C dL_same_313 5 rfl ?_
      refine z_icmp_ne (tgt := 322) C dL_same_315 (by decide) (fun c45 => ?_) (fun c45 => ?_)
      · have hF := zelse hF c45
        refine z_iconst (v := 0) C dL_same_322 (by decide) ?_
        refine z_iadd C dL_same_323 ?_
        refine z_istore (lv' := [(7, .int (v7 + 0)), (0, .ref ab), (2, .ref (aw 0)), (3, .ref (aw 1)), (4, .ref (aw 2)), (5, .int v5), (6, .int v6), (8, .int v8), (9, .int v9), (10, .int v10)]) C dL_same_324 (by decide) rfl ?_
        refine z_iinc (v := (v9 + 1)) (lv' := [(9, .int (v9 + 1)), (7, .int (v7 + 0)), (0, .ref ab), (2, .ref (aw 0)), (3, .ref (aw 1)), (4, .ref (aw 2)), (5, .int v5), (6, .int v6), (8, .int v8), (10, .int v10)]) C dL_same_326 8 rfl rfl (by decide) rfl ?_
        refine z_goto (tgt := 256) C dL_same_329 (by decide) ?_
        exact z_sub C [2, 3, 4, 5, 6, 7, 1, 8, 0] rfl (hk256 Tc Kc Uc Lc v5 v6 (v7 + 0) v8 (v9 + 1) hF)
      · have hF := zif hF c45
        refine z_iconst (v := 1) C dL_same_318 (by decide) ?_
        refine z_goto (tgt := 323) C dL_same_319 (by decide) ?_
        refine z_iadd C dL_same_323 ?_
        refine z_istore (lv' := [(7, .int (v7 + 1)), (0, .ref ab), (2, .ref (aw 0)), (3, .ref (aw 1)), (4, .ref (aw 2)), (5, .int v5), (6, .int v6), (8, .int v8), (9, .int v9), (10, .int v10)]) C dL_same_324 (by decide) rfl ?_
        refine z_iinc (v := (v9 + 1)) (lv' := [(9, .int (v9 + 1)), (7, .int (v7 + 1)), (0, .ref ab), (2, .ref (aw 0)), (3, .ref (aw 1)), (4, .ref (aw 2)), (5, .int v5), (6, .int v6), (8, .int v8), (10, .int v10)]) C dL_same_326 8 rfl rfl (by decide) rfl ?_
        refine z_goto (tgt := 256) C dL_same_329 (by decide) ?_
        exact z_sub C [2, 3, 4, 5, 6, 7, 1, 8, 0] rfl (hk256 Tc Kc Uc Lc v5 v6 (v7 + 1) v8 (v9 + 1) hF)
    · have hF := zelse hF c44
      refine z_iload C dL_same_291 9 rfl ?_
      refine z_iload C dL_same_293 5 rfl ?_
      refine z_icmp_eq (tgt := 309) C dL_same_295 (by decide) (fun c46 => ?_) (fun c46 => ?_)
      · have hF := zif hF c46
        refine z_iload C dL_same_309 6 rfl ?_
        refine z_iload C dL_same_311 9 rfl ?_
        refine z_iload C dL_same_313 5 rfl ?_
        refine z_icmp_ne (tgt := 322) C dL_same_315 (by decide) (fun c47 => ?_) (fun c47 => ?_)
        · have hF := zelse hF c47
          refine z_iconst (v := 0) C dL_same_322 (by decide) ?_
          refine z_iadd C dL_same_323 ?_
          refine z_istore (lv' := [(7, .int (v7 + 0)), (0, .ref ab), (2, .ref (aw 0)), (3, .ref (aw 1)), (4, .ref (aw 2)), (5, .int v5), (6, .int v6), (8, .int v8), (9, .int v9), (10, .int v10)]) C dL_same_324 (by decide) rfl ?_
          refine z_iinc (v := (v9 + 1)) (lv' := [(9, .int (v9 + 1)), (7, .int (v7 + 0)), (0, .ref ab), (2, .ref (aw 0)), (3, .ref (aw 1)), (4, .ref (aw 2)), (5, .int v5), (6, .int v6), (8, .int v8), (10, .int v10)]) C dL_same_326 8 rfl rfl (by decide) rfl ?_
          refine z_goto (tgt := 256) C dL_same_329 (by decide) ?_
          exact z_sub C [2, 3, 4, 5, 6, 7, 1, 8, 0] rfl (hk256 Tc Kc Uc Lc v5 v6 (v7 + 0) v8 (v9 + 1) hF)
        · have hF := zif hF c47
          refine z_iconst (v := 1) C dL_same_318 (by decide) ?_
          refine z_goto (tgt := 323) C dL_same_319 (by decide) ?_
          refine z_iadd C dL_same_323 ?_
          refine z_istore (lv' := [(7, .int (v7 + 1)), (0, .ref ab), (2, .ref (aw 0)), (3, .ref (aw 1)), (4, .ref (aw 2)), (5, .int v5), (6, .int v6), (8, .int v8), (9, .int v9), (10, .int v10)]) C dL_same_324 (by decide) rfl ?_
          refine z_iinc (v := (v9 + 1)) (lv' := [(9, .int (v9 + 1)), (7, .int (v7 + 1)), (0, .ref ab), (2, .ref (aw 0)), (3, .ref (aw 1)), (4, .ref (aw 2)), (5, .int v5), (6, .int v6), (8, .int v8), (10, .int v10)]) C dL_same_326 8 rfl rfl (by decide) rfl ?_
          refine z_goto (tgt := 256) C dL_same_329 (by decide) ?_
          exact z_sub C [2, 3, 4, 5, 6, 7, 1, 8, 0] rfl (hk256 Tc Kc Uc Lc v5 v6 (v7 + 1) v8 (v9 + 1) hF)
      · have hF := zelse hF c46
        refine z_aload_n C dL_same_298 rfl 2 rfl ?_
        refine z_iconst (v := 5) C dL_same_299 (by decide) ?_
        refine z_iload C dL_same_300 9 rfl ?_
        refine z_imul C dL_same_302 ?_
        obtain ⟨g48, hF⟩ := zix_some hF
        refine z_iald (v := ((W 1) (5 * v10).toNatClampNeg)) C g48 31 rfl rfl rfl dL_same_303 ?_
        refine z_istore (lv' := [(10, .int ((W 1) (5 * v10).toNatClampNeg)), (0, .ref ab), (2, .ref (aw 0)), (3, .ref (aw 1)), (4, .ref (aw 2)), (5, .int v5), (6, .int v6), (7, .int v7), (8, .int v8), (9, .int v9)]) C dL_same_304 (by decide) rfl ?_
        refine z_goto (tgt := 286) C dL_same_306 (by decide) ?_
        exact z_sub C [1, 2, 3, 4, 5, 6, 7, 8, 9, 0] rfl (ih Tc Kc Uc Lc v5 v6 v7 v8 v9 ((W 1) (5 * v10).toNatClampNeg) hF)
set_option maxHeartbeats 4000000 in
set_option maxRecDepth 100000 in
theorem c_L_same_j256 (l : Launch) (hl : l.stackTraces = false) (D : va_G) (cI cJ cZ : ClassId) (ab : Nat) (a5 : Nat → Nat) (a3 : Nat → Nat) (a6 : Nat → Nat) (a1 : Nat → Nat) (a0 : Nat → Nat) (aw : Nat → Nat) (B : SS) (P : SS) (M : SS) (T : SS) (K : SS) (U : SS) (W : SS) (L : SL) (O : SL) (u : Int32 × SS × SS × SS × SL) {p : Program} {e : Env} {s : State} {m : MethodId} {args : Array Value} {below : List Frame} {meth : Method} {c : Code} {A : Nat → Prop} (C : zC p s m args meth c cL_same 11 (some .boolean) RL wsL_same D (zTy cI cJ cZ) A s.heap) (XE : zE A s s.heap) (XN : zN s) : ∀ (n : Nat) (Tc : SS) (Kc : SS) (Uc : SS) (Lc : SL) (v5 : Int32) (v6 : Int32) (v7 : Int32) (v8 : Int32) (v9 : Int32), f_L_same_256 B P M W n Tc Kc Uc Lc v5 v6 v7 v8 v9 = some u → zW p l e { frames := 10, cells := 3, slots := 18, locals := 194 } s m args below meth c 11 D A s.heap 0 0 (vx_MQ below (zQg D (zTy cI cJ cZ) (some (.int u.1)) (zwX7 cI cJ cZ ab a5 a3 a6 a1 a0 B P M u.2.1 u.2.2.1 u.2.2.2.1 u.2.2.2.2 ++ zwW cI cJ cZ aw W O) (if u.1 = 0 then 0 else 3) A) (fun _ _ _ => False) args s 3 18 A) (zwX7 cI cJ cZ ab a5 a3 a6 a1 a0 B P M Tc Kc Uc Lc ++ zwW cI cJ cZ aw W O) [(0, .ref ab), (2, .ref (aw 0)), (3, .ref (aw 1)), (4, .ref (aw 2)), (5, .int v5), (6, .int v6), (7, .int v7), (8, .int v8), (9, .int v9)] 256 [] := by
  intro n
  induction n with
  | zero => intro Tc Kc Uc Lc v5 v6 v7 v8 v9 hF; exact absurd (show none = some u from hF) (fun q => nomatch q)
  | succ n ih =>
    intro Tc Kc Uc Lc v5 v6 v7 v8 v9 hF
    refine z_iload C dL_same_256 8 rfl ?_
    refine z_aload_n C dL_same_258 rfl 1 rfl ?_
    refine z_iconst (v := 3) C dL_same_259 (by decide) ?_
    obtain ⟨g7, hF⟩ := zix_some hF
    refine z_iald (v := ((W 0) (3 : Int32).toNatClampNeg)) C g7 30 rfl rfl rfl dL_same_260 ?_
    refine z_icmp_ge (tgt := 332) C dL_same_261 (by decide) (fun c8 => ?_) (fun c8 => ?_)
    · have hF := zif hF c8
      refine z_iconst (v := 0) C dL_same_332 (by decide) ?_
      refine z_istore (lv' := [(9, .int 0), (0, .ref ab), (2, .ref (aw 0)), (3, .ref (aw 1)), (4, .ref (aw 2)), (5, .int v5), (6, .int v6), (7, .int v7), (8, .int v8)]) C dL_same_333 (by decide) rfl ?_
      exact z_sub C [1, 2, 3, 4, 5, 6, 7, 8, 0] rfl (c_L_same_j335 l hl D cI cJ cZ ab a5 a3 a6 a1 a0 aw B P M T K U W L O u C XE XN 600 Tc Kc Uc Lc v5 v6 v7 v8 0 hF)
    · have hF := zelse hF c8
      refine z_iload C dL_same_264 8 rfl ?_
      refine z_aload_n C dL_same_266 rfl 1 rfl ?_
      refine z_aload_n C dL_same_267 rfl 2 rfl ?_
      obtain ⟨r42, er42, hF⟩ := zbd hF
      refine z_callSW (n := 3) (As := [.int v9, .ref (aw 0), .ref (aw 1)]) (ws' := (zwX7 cI cJ cZ ab a5 a3 a6 a1 a0 B P M Tc Kc Uc Lc ++ zwW cI cJ cZ aw W O)) C (c_L_lives l D cI cJ cZ aw W O v9 r42 er42) gL_same_L_lives rfl rfl rfl (by decide +kernel) ⟨Nat.le_of_ble_eq_true rfl, Nat.le_of_ble_eq_true rfl⟩ ⟨Nat.zero_le _, Nat.zero_le _⟩ (zwX7 cI cJ cZ ab a5 a3 a6 a1 a0 B P M Tc Kc Uc Lc) [] zAs5 zAs6 rfl rfl (Nat.le_of_ble_eq_true rfl) dL_same_268 ?_
      refine z_if_eq (tgt := 283) C dL_same_271 (by decide) (fun c43 => ?_) (fun c43 => ?_)
      · have hF := zif hF c43
        refine z_iconst (v := (-1)) C dL_same_283 (by decide) ?_
        refine z_istore (lv' := [(10, .int (-1)), (0, .ref ab), (2, .ref (aw 0)), (3, .ref (aw 1)), (4, .ref (aw 2)), (5, .int v5), (6, .int v6), (7, .int v7), (8, .int v8), (9, .int v9)]) C dL_same_284 (by decide) rfl ?_
        exact z_sub C [1, 2, 3, 4, 5, 6, 7, 8, 9, 0] rfl (c_L_same_j286 l hl D cI cJ cZ ab a5 a3 a6 a1 a0 aw B P M T K U W L O u C XE XN (f_L_same_256 B P M W n) (fun Tc_ Kc_ Uc_ Lc_ v5_ v6_ v7_ v8_ v9_ hF => ih Tc_ Kc_ Uc_ Lc_ v5_ v6_ v7_ v8_ v9_ hF) 600 Tc Kc Uc Lc v5 v6 v7 v8 v9 (-1) hF)
      · have hF := zelse hF c43
        refine z_aload_n C dL_same_274 rfl 2 rfl ?_
        refine z_iconst (v := 5) C dL_same_275 (by decide) ?_
        refine z_iload C dL_same_276 8 rfl ?_
        refine z_imul C dL_same_278 ?_
        obtain ⟨g49, hF⟩ := zix_some hF
        refine z_iald (v := ((W 1) (5 * v9).toNatClampNeg)) C g49 31 rfl rfl rfl dL_same_279 ?_
        refine z_goto (tgt := 284) C dL_same_280 (by decide) ?_
        refine z_istore (lv' := [(10, .int ((W 1) (5 * v9).toNatClampNeg)), (0, .ref ab), (2, .ref (aw 0)), (3, .ref (aw 1)), (4, .ref (aw 2)), (5, .int v5), (6, .int v6), (7, .int v7), (8, .int v8), (9, .int v9)]) C dL_same_284 (by decide) rfl ?_
        exact z_sub C [1, 2, 3, 4, 5, 6, 7, 8, 9, 0] rfl (c_L_same_j286 l hl D cI cJ cZ ab a5 a3 a6 a1 a0 aw B P M T K U W L O u C XE XN (f_L_same_256 B P M W n) (fun Tc_ Kc_ Uc_ Lc_ v5_ v6_ v7_ v8_ v9_ hF => ih Tc_ Kc_ Uc_ Lc_ v5_ v6_ v7_ v8_ v9_ hF) 600 Tc Kc Uc Lc v5 v6 v7 v8 v9 ((W 1) (5 * v9).toNatClampNeg) hF)
set_option maxHeartbeats 4000000 in
set_option maxRecDepth 100000 in
theorem c_L_same_j142 (l : Launch) (hl : l.stackTraces = false) (D : va_G) (cI cJ cZ : ClassId) (ab : Nat) (a5 : Nat → Nat) (a3 : Nat → Nat) (a6 : Nat → Nat) (a1 : Nat → Nat) (a0 : Nat → Nat) (aw : Nat → Nat) (B : SS) (P : SS) (M : SS) (T : SS) (K : SS) (U : SS) (W : SS) (L : SL) (O : SL) (u : Int32 × SS × SS × SS × SL) {p : Program} {e : Env} {s : State} {m : MethodId} {args : Array Value} {below : List Frame} {meth : Method} {c : Code} {A : Nat → Prop} (C : zC p s m args meth c cL_same 11 (some .boolean) RL wsL_same D (zTy cI cJ cZ) A s.heap) (XE : zE A s s.heap) (XN : zN s) : ∀ (n : Nat) (Tc : SS) (Kc : SS) (Uc : SS) (Lc : SL) (v1 : Int32) (v5 : Int32) (v6 : Int32), f_L_same_142 B P M W n Tc Kc Uc Lc v1 v5 v6 = some u → zW p l e { frames := 10, cells := 3, slots := 18, locals := 194 } s m args below meth c 11 D A s.heap 0 0 (vx_MQ below (zQg D (zTy cI cJ cZ) (some (.int u.1)) (zwX7 cI cJ cZ ab a5 a3 a6 a1 a0 B P M u.2.1 u.2.2.1 u.2.2.2.1 u.2.2.2.2 ++ zwW cI cJ cZ aw W O) (if u.1 = 0 then 0 else 3) A) (fun _ _ _ => False) args s 3 18 A) (zwX7 cI cJ cZ ab a5 a3 a6 a1 a0 B P M Tc Kc Uc Lc ++ zwW cI cJ cZ aw W O) [(0, .ref ab), (1, .int v1), (2, .ref (aw 0)), (3, .ref (aw 1)), (4, .ref (aw 2)), (5, .int v5), (6, .int v6)] 142 [] := by
  intro n
  induction n with
  | zero => intro Tc Kc Uc Lc v1 v5 v6 hF; exact absurd (show none = some u from hF) (fun q => nomatch q)
  | succ n ih =>
    intro Tc Kc Uc Lc v1 v5 v6 hF
    refine z_iload C dL_same_142 6 rfl ?_
    refine z_aload_n C dL_same_144 rfl 2 rfl ?_
    refine z_iconst (v := 4) C dL_same_145 (by decide) ?_
    obtain ⟨g3, hF⟩ := zix_some hF
    refine z_iald (v := ((W 0) (4 : Int32).toNatClampNeg)) C g3 30 rfl rfl rfl dL_same_146 ?_
    refine z_icmp_ge (tgt := 238) C dL_same_147 (by decide) (fun c4 => ?_) (fun c4 => ?_)
    · have hF := zif hF c4
      refine z_iload_n C dL_same_238 rfl 1 rfl ?_
      refine z_aload_n C dL_same_239 rfl 2 rfl ?_
      refine z_iconst (v := 3) C dL_same_240 (by decide) ?_
      obtain ⟨g5, hF⟩ := zix_some hF
      refine z_iald (v := ((W 0) (3 : Int32).toNatClampNeg)) C g5 30 rfl rfl rfl dL_same_241 ?_
      obtain ⟨r6, er6, hF⟩ := zbd hF
      refine z_callS (n := 2) (As := [.int v1, .int ((W 0) (3 : Int32).toNatClampNeg)]) C (c_L_low l D cI cJ cZ v1 ((W 0) (3 : Int32).toNatClampNeg) r6 er6) gL_same_L_low rfl rfl rfl (by decide +kernel) ⟨Nat.le_of_ble_eq_true rfl, Nat.le_of_ble_eq_true rfl⟩ ⟨Nat.zero_le _, Nat.zero_le _⟩ rfl rfl (Nat.le_of_ble_eq_true rfl) dL_same_242 ?_
      refine z_istore (lv' := [(6, .int r6), (0, .ref ab), (1, .int v1), (2, .ref (aw 0)), (3, .ref (aw 1)), (4, .ref (aw 2)), (5, .int v5)]) C dL_same_245 (by decide) rfl ?_
      refine z_iconst (v := 0) C dL_same_247 (by decide) ?_
      refine z_istore (lv' := [(7, .int 0), (6, .int r6), (0, .ref ab), (1, .int v1), (2, .ref (aw 0)), (3, .ref (aw 1)), (4, .ref (aw 2)), (5, .int v5)]) C dL_same_248 (by decide) rfl ?_
      refine z_iconst (v := 0) C dL_same_250 (by decide) ?_
      refine z_istore (lv' := [(8, .int 0), (7, .int 0), (6, .int r6), (0, .ref ab), (1, .int v1), (2, .ref (aw 0)), (3, .ref (aw 1)), (4, .ref (aw 2)), (5, .int v5)]) C dL_same_251 (by decide) rfl ?_
      refine z_iconst (v := 1) C dL_same_253 (by decide) ?_
      refine z_istore (lv' := [(9, .int 1), (8, .int 0), (7, .int 0), (6, .int r6), (0, .ref ab), (1, .int v1), (2, .ref (aw 0)), (3, .ref (aw 1)), (4, .ref (aw 2)), (5, .int v5)]) C dL_same_254 (by decide) rfl ?_
      exact z_sub C [4, 6, 7, 8, 9, 3, 2, 1, 0] rfl (c_L_same_j256 l hl D cI cJ cZ ab a5 a3 a6 a1 a0 aw B P M T K U W L O u C XE XN 600 Tc Kc Uc Lc v5 r6 0 0 1 hF)
    · have hF := zelse hF c4
      refine z_iload C dL_same_150 6 rfl ?_
      refine z_aload_n C dL_same_152 rfl 2 rfl ?_
      refine z_aload_n C dL_same_153 rfl 3 rfl ?_
      refine z_aload C dL_same_154 4 rfl ?_
      obtain ⟨r50, er50, hF⟩ := zbd hF
      refine z_callSW (n := 4) (As := [.int v6, .ref (aw 0), .ref (aw 1), .ref (aw 2)]) (ws' := (zwX7 cI cJ cZ ab a5 a3 a6 a1 a0 B P M Tc Kc Uc Lc ++ zwW cI cJ cZ aw W O)) C (c_L_works l D cI cJ cZ aw W O v6 r50 er50) gL_same_L_works rfl rfl rfl (by decide +kernel) ⟨Nat.le_of_ble_eq_true rfl, Nat.le_of_ble_eq_true rfl⟩ ⟨Nat.zero_le _, Nat.zero_le _⟩ (zwX7 cI cJ cZ ab a5 a3 a6 a1 a0 B P M Tc Kc Uc Lc) [] zAs5 zAs6 rfl rfl (Nat.le_of_ble_eq_true rfl) dL_same_156 ?_
      refine z_istore (lv' := [(7, .int r50), (0, .ref ab), (1, .int v1), (2, .ref (aw 0)), (3, .ref (aw 1)), (4, .ref (aw 2)), (5, .int v5), (6, .int v6)]) C dL_same_159 (by decide) rfl ?_
      refine z_aload_n C dL_same_161 rfl 1 rfl ?_
      refine z_iload C dL_same_162 7 rfl ?_
      obtain ⟨r51, er51, hF⟩ := zok_some hF
      refine z_gcallV_R (n := 1) (As := [.int v6]) (ws' := (zwX7 cI cJ cZ ab a5 a3 a6 a1 a0 B P M Tc Kc Uc Lc ++ zwW cI cJ cZ aw W O)) C C XE (fun _ _ h => h) (c_X7_works l hl D cI cJ cZ ab a5 a3 a6 a1 a0 B P M Tc Kc Uc Lc v6 (.inr r51) er51) gL_same_X7_works rfl (by decide +kernel) ⟨Nat.le_of_ble_eq_true rfl, Nat.le_of_ble_eq_true rfl⟩ ⟨Nat.zero_le _, Nat.zero_le _⟩ 0 rfl rfl [] (zwW cI cJ cZ aw W O) rfl rfl rfl rfl (Nat.le_of_ble_eq_true rfl) dL_same_164 ?_
      refine z_iload C dL_same_167 0 rfl ?_
      refine z_icmp_ne (tgt := 190) C dL_same_169 (by decide) (fun c52 => ?_) (fun c52 => ?_)
      · have hF := zelse hF c52
        refine z_iconst (v := 0) C dL_same_190 (by decide) ?_
        have hu := Option.some.inj hF
        subst hu
        refine z_widen (k := 3) (n := 18) (Nat.le_of_ble_eq_true rfl) (Nat.le_of_ble_eq_true rfl) ?_
        exact z_lretg C (zhb_0 (Nat.le_refl 0)) dL_same_191 rfl z_b0
      · have hF := zif hF c52
        refine z_aload_n C dL_same_172 rfl 1 rfl ?_
        refine z_iload C dL_same_173 7 rfl ?_
        obtain ⟨r53, er53, hF⟩ := zok_some hF
        refine z_gcallV_R (n := 1) (As := [.int v6]) (ws' := (zwX7 cI cJ cZ ab a5 a3 a6 a1 a0 B P M Tc Kc Uc Lc ++ zwW cI cJ cZ aw W O)) C C XE (fun _ _ h => h) (c_X7_endOfCredential l hl D cI cJ cZ ab a5 a3 a6 a1 a0 B P M Tc Kc Uc Lc v6 (.inr r53) er53) gL_same_X7_endOfCredential rfl (by decide +kernel) ⟨Nat.le_of_ble_eq_true rfl, Nat.le_of_ble_eq_true rfl⟩ ⟨Nat.zero_le _, Nat.zero_le _⟩ 0 rfl rfl [] (zwW cI cJ cZ aw W O) rfl rfl rfl rfl (Nat.le_of_ble_eq_true rfl) dL_same_175 ?_
        refine z_aload C dL_same_178 5 rfl ?_
        refine z_iconst (v := 5) C dL_same_180 (by decide) ?_
        refine z_iload C dL_same_181 7 rfl ?_
        refine z_imul C dL_same_183 ?_
        refine z_iconst (v := 2) C dL_same_184 (by decide) ?_
        refine z_iadd C dL_same_185 ?_
        obtain ⟨g54, hF⟩ := zix_some hF
        refine z_iald (v := ((W 2) ((5 * v6) + 2).toNatClampNeg)) C g54 32 rfl rfl rfl dL_same_186 ?_
        refine z_icmp_eq (tgt := 192) C dL_same_187 (by decide) (fun c55 => ?_) (fun c55 => ?_)
        · have hF := zif hF c55
          refine z_iload C dL_same_192 0 rfl ?_
          refine z_if_eq (tgt := 228) C dL_same_194 (by decide) (fun c56 => ?_) (fun c56 => ?_)
          · have hF := zif hF c56
            refine z_iload C dL_same_228 6 rfl ?_
            refine z_istore (lv' := [(5, .int v5), (7, .int r50), (0, .ref ab), (1, .int v1), (2, .ref (aw 0)), (3, .ref (aw 1)), (4, .ref (aw 2)), (6, .int v6)]) C dL_same_230 (by decide) rfl ?_
            refine z_iinc (v := (v6 + 1)) (lv' := [(6, .int (v6 + 1)), (5, .int v5), (7, .int r50), (0, .ref ab), (1, .int v1), (2, .ref (aw 0)), (3, .ref (aw 1)), (4, .ref (aw 2))]) C dL_same_232 7 rfl rfl (by decide) rfl ?_
            refine z_goto (tgt := 142) C dL_same_235 (by decide) ?_
            exact z_sub C [3, 4, 5, 6, 7, 1, 0] rfl (ih Tc Kc Uc Lc v1 v5 (v6 + 1) hF)
          · have hF := zelse hF c56
            refine z_iload C dL_same_197 6 rfl ?_
            refine z_if_lt (tgt := 216) C dL_same_199 (by decide) (fun c57 => ?_) (fun c57 => ?_)
            · have hF := zif hF c57
              refine z_aload C dL_same_216 5 rfl ?_
              refine z_iconst (v := 5) C dL_same_218 (by decide) ?_
              refine z_iload C dL_same_219 7 rfl ?_
              refine z_imul C dL_same_221 ?_
              refine z_iconst (v := 2) C dL_same_222 (by decide) ?_
              refine z_iadd C dL_same_223 ?_
              obtain ⟨g58, hF⟩ := zix_some hF
              refine z_iald (v := ((W 2) ((5 * v6) + 2).toNatClampNeg)) C g58 32 rfl rfl rfl dL_same_224 ?_
              refine z_goto (tgt := 230) C dL_same_225 (by decide) ?_
              refine z_istore (lv' := [(5, .int ((W 2) ((5 * v6) + 2).toNatClampNeg)), (7, .int r50), (0, .ref ab), (1, .int v1), (2, .ref (aw 0)), (3, .ref (aw 1)), (4, .ref (aw 2)), (6, .int v6)]) C dL_same_230 (by decide) rfl ?_
              refine z_iinc (v := (v6 + 1)) (lv' := [(6, .int (v6 + 1)), (5, .int ((W 2) ((5 * v6) + 2).toNatClampNeg)), (7, .int r50), (0, .ref ab), (1, .int v1), (2, .ref (aw 0)), (3, .ref (aw 1)), (4, .ref (aw 2))]) C dL_same_232 7 rfl rfl (by decide) rfl ?_
              refine z_goto (tgt := 142) C dL_same_235 (by decide) ?_
              exact z_sub C [3, 4, 5, 6, 7, 1, 0] rfl (ih Tc Kc Uc Lc v1 ((W 2) ((5 * v6) + 2).toNatClampNeg) (v6 + 1) hF)
            · have hF := zelse hF c57
              refine z_aload C dL_same_202 5 rfl ?_
              refine z_iconst (v := 5) C dL_same_204 (by decide) ?_
              refine z_iload C dL_same_205 7 rfl ?_
              refine z_imul C dL_same_207 ?_
              refine z_iconst (v := 2) C dL_same_208 (by decide) ?_
              refine z_iadd C dL_same_209 ?_
              obtain ⟨g59, hF⟩ := zix_some hF
              refine z_iald (v := ((W 2) ((5 * v6) + 2).toNatClampNeg)) C g59 32 rfl rfl rfl dL_same_210 ?_
              refine z_iload C dL_same_211 6 rfl ?_
              refine z_icmp_ge (tgt := 228) C dL_same_213 (by decide) (fun c60 => ?_) (fun c60 => ?_)
              · have hF := zif hF c60
                refine z_iload C dL_same_228 6 rfl ?_
                refine z_istore (lv' := [(5, .int v5), (7, .int r50), (0, .ref ab), (1, .int v1), (2, .ref (aw 0)), (3, .ref (aw 1)), (4, .ref (aw 2)), (6, .int v6)]) C dL_same_230 (by decide) rfl ?_
                refine z_iinc (v := (v6 + 1)) (lv' := [(6, .int (v6 + 1)), (5, .int v5), (7, .int r50), (0, .ref ab), (1, .int v1), (2, .ref (aw 0)), (3, .ref (aw 1)), (4, .ref (aw 2))]) C dL_same_232 7 rfl rfl (by decide) rfl ?_
                refine z_goto (tgt := 142) C dL_same_235 (by decide) ?_
                exact z_sub C [3, 4, 5, 6, 7, 1, 0] rfl (ih Tc Kc Uc Lc v1 v5 (v6 + 1) hF)
              · have hF := zelse hF c60
                refine z_aload C dL_same_216 5 rfl ?_
                refine z_iconst (v := 5) C dL_same_218 (by decide) ?_
                refine z_iload C dL_same_219 7 rfl ?_
                refine z_imul C dL_same_221 ?_
                refine z_iconst (v := 2) C dL_same_222 (by decide) ?_
                refine z_iadd C dL_same_223 ?_
                obtain ⟨g61, hF⟩ := zix_some hF
                refine z_iald (v := ((W 2) ((5 * v6) + 2).toNatClampNeg)) C g61 32 rfl rfl rfl dL_same_224 ?_
                refine z_goto (tgt := 230) C dL_same_225 (by decide) ?_
                refine z_istore (lv' := [(5, .int ((W 2) ((5 * v6) + 2).toNatClampNeg)), (7, .int r50), (0, .ref ab), (1, .int v1), (2, .ref (aw 0)), (3, .ref (aw 1)), (4, .ref (aw 2)), (6, .int v6)]) C dL_same_230 (by decide) rfl ?_
                refine z_iinc (v := (v6 + 1)) (lv' := [(6, .int (v6 + 1)), (5, .int ((W 2) ((5 * v6) + 2).toNatClampNeg)), (7, .int r50), (0, .ref ab), (1, .int v1), (2, .ref (aw 0)), (3, .ref (aw 1)), (4, .ref (aw 2))]) C dL_same_232 7 rfl rfl (by decide) rfl ?_
                refine z_goto (tgt := 142) C dL_same_235 (by decide) ?_
                exact z_sub C [3, 4, 5, 6, 7, 1, 0] rfl (ih Tc Kc Uc Lc v1 ((W 2) ((5 * v6) + 2).toNatClampNeg) (v6 + 1) hF)
        · have hF := zelse hF c55
          refine z_iconst (v := 0) C dL_same_190 (by decide) ?_
          have hu := Option.some.inj hF
          subst hu
          refine z_widen (k := 3) (n := 18) (Nat.le_of_ble_eq_true rfl) (Nat.le_of_ble_eq_true rfl) ?_
          exact z_lretg C (zhb_0 (Nat.le_refl 0)) dL_same_191 rfl z_b0
set_option maxHeartbeats 4000000 in
set_option maxRecDepth 100000 in
theorem c_L_same_j6 (l : Launch) (hl : l.stackTraces = false) (D : va_G) (cI cJ cZ : ClassId) (ab : Nat) (a5 : Nat → Nat) (a3 : Nat → Nat) (a6 : Nat → Nat) (a1 : Nat → Nat) (a0 : Nat → Nat) (aw : Nat → Nat) (B : SS) (P : SS) (M : SS) (T : SS) (K : SS) (U : SS) (W : SS) (L : SL) (O : SL) (u : Int32 × SS × SS × SS × SL) {p : Program} {e : Env} {s : State} {m : MethodId} {args : Array Value} {below : List Frame} {meth : Method} {c : Code} {A : Nat → Prop} (C : zC p s m args meth c cL_same 11 (some .boolean) RL wsL_same D (zTy cI cJ cZ) A s.heap) (XE : zE A s s.heap) (XN : zN s) : ∀ (n : Nat) (Tc : SS) (Kc : SS) (Uc : SS) (Lc : SL) (v1 : Int32) (v5 : Int32) (v6 : Int32), f_L_same_6 B P M W n Tc Kc Uc Lc v1 v5 v6 = some u → zW p l e { frames := 10, cells := 3, slots := 18, locals := 194 } s m args below meth c 11 D A s.heap 0 0 (vx_MQ below (zQg D (zTy cI cJ cZ) (some (.int u.1)) (zwX7 cI cJ cZ ab a5 a3 a6 a1 a0 B P M u.2.1 u.2.2.1 u.2.2.2.1 u.2.2.2.2 ++ zwW cI cJ cZ aw W O) (if u.1 = 0 then 0 else 3) A) (fun _ _ _ => False) args s 3 18 A) (zwX7 cI cJ cZ ab a5 a3 a6 a1 a0 B P M Tc Kc Uc Lc ++ zwW cI cJ cZ aw W O) [(0, .ref ab), (1, .int v1), (2, .ref (aw 0)), (3, .ref (aw 1)), (4, .ref (aw 2)), (5, .int v5), (6, .int v6)] 6 [] := by
  intro n
  induction n with
  | zero => intro Tc Kc Uc Lc v1 v5 v6 hF; exact absurd (show none = some u from hF) (fun q => nomatch q)
  | succ n ih =>
    intro Tc Kc Uc Lc v1 v5 v6 hF
    refine z_iload C dL_same_6 6 rfl ?_
    refine z_aload_n C dL_same_8 rfl 2 rfl ?_
    refine z_iconst (v := 3) C dL_same_9 (by decide) ?_
    obtain ⟨g1, hF⟩ := zix_some hF
    refine z_iald (v := ((W 0) (3 : Int32).toNatClampNeg)) C g1 30 rfl rfl rfl dL_same_10 ?_
    refine z_icmp_ge (tgt := 139) C dL_same_11 (by decide) (fun c2 => ?_) (fun c2 => ?_)
    · have hF := zif hF c2
      refine z_iconst (v := 0) C dL_same_139 (by decide) ?_
      refine z_istore (lv' := [(6, .int 0), (0, .ref ab), (1, .int v1), (2, .ref (aw 0)), (3, .ref (aw 1)), (4, .ref (aw 2)), (5, .int v5)]) C dL_same_140 (by decide) rfl ?_
      exact z_sub C [1, 2, 3, 4, 5, 6, 0] rfl (c_L_same_j142 l hl D cI cJ cZ ab a5 a3 a6 a1 a0 aw B P M T K U W L O u C XE XN 600 Tc Kc Uc Lc v1 v5 0 hF)
    · have hF := zelse hF c2
      refine z_iload C dL_same_14 6 rfl ?_
      refine z_aload_n C dL_same_16 rfl 2 rfl ?_
      refine z_aload_n C dL_same_17 rfl 3 rfl ?_
      obtain ⟨r62, er62, hF⟩ := zbd hF
      refine z_callSW (n := 3) (As := [.int v6, .ref (aw 0), .ref (aw 1)]) (ws' := (zwX7 cI cJ cZ ab a5 a3 a6 a1 a0 B P M Tc Kc Uc Lc ++ zwW cI cJ cZ aw W O)) C (c_L_lives l D cI cJ cZ aw W O v6 r62 er62) gL_same_L_lives rfl rfl rfl (by decide +kernel) ⟨Nat.le_of_ble_eq_true rfl, Nat.le_of_ble_eq_true rfl⟩ ⟨Nat.zero_le _, Nat.zero_le _⟩ (zwX7 cI cJ cZ ab a5 a3 a6 a1 a0 B P M Tc Kc Uc Lc) [] zAs5 zAs6 rfl rfl (Nat.le_of_ble_eq_true rfl) dL_same_18 ?_
      refine z_istore (lv' := [(7, .int r62), (0, .ref ab), (1, .int v1), (2, .ref (aw 0)), (3, .ref (aw 1)), (4, .ref (aw 2)), (5, .int v5), (6, .int v6)]) C dL_same_21 (by decide) rfl ?_
      refine z_aload_n C dL_same_23 rfl 1 rfl ?_
      refine z_iload C dL_same_24 7 rfl ?_
      obtain ⟨r63, er63, hF⟩ := zok_some hF
      refine z_gcallV_R (n := 1) (As := [.int v6]) (ws' := (zwX7 cI cJ cZ ab a5 a3 a6 a1 a0 B P M Tc Kc Uc Lc ++ zwW cI cJ cZ aw W O)) C C XE (fun _ _ h => h) (c_X7_isAlive l hl D cI cJ cZ ab a5 a3 a6 a1 a0 B P M Tc Kc Uc Lc v6 (.inr r63) er63) gL_same_X7_isAlive rfl (by decide +kernel) ⟨Nat.le_of_ble_eq_true rfl, Nat.le_of_ble_eq_true rfl⟩ ⟨Nat.zero_le _, Nat.zero_le _⟩ 0 rfl rfl [] (zwW cI cJ cZ aw W O) rfl rfl rfl rfl (Nat.le_of_ble_eq_true rfl) dL_same_26 ?_
      refine z_iload C dL_same_29 0 rfl ?_
      refine z_icmp_ne (tgt := 88) C dL_same_31 (by decide) (fun c64 => ?_) (fun c64 => ?_)
      · have hF := zelse hF c64
        refine z_iconst (v := 0) C dL_same_88 (by decide) ?_
        have hu := Option.some.inj hF
        subst hu
        refine z_widen (k := 3) (n := 18) (Nat.le_of_ble_eq_true rfl) (Nat.le_of_ble_eq_true rfl) ?_
        exact z_lretg C (zhb_0 (Nat.le_refl 0)) dL_same_89 rfl z_b0
      · have hF := zif hF c64
        refine z_aload_n C dL_same_34 rfl 1 rfl ?_
        refine z_iload C dL_same_35 7 rfl ?_
        obtain ⟨r65, er65, hF⟩ := zok_some hF
        refine z_gcallV_R (n := 1) (As := [.int v6]) (ws' := (zwX7 cI cJ cZ ab a5 a3 a6 a1 a0 B P M Tc Kc Uc Lc ++ zwW cI cJ cZ aw W O)) C C XE (fun _ _ h => h) (c_X7_parentOf l hl D cI cJ cZ ab a5 a3 a6 a1 a0 B P M Tc Kc Uc Lc v6 (.inr r65) er65) gL_same_X7_parentOf rfl (by decide +kernel) ⟨Nat.le_of_ble_eq_true rfl, Nat.le_of_ble_eq_true rfl⟩ ⟨Nat.zero_le _, Nat.zero_le _⟩ 0 rfl rfl [] (zwW cI cJ cZ aw W O) rfl rfl rfl rfl (Nat.le_of_ble_eq_true rfl) dL_same_37 ?_
        refine z_aload_n C dL_same_40 rfl 4 rfl ?_
        refine z_iconst (v := 5) C dL_same_41 (by decide) ?_
        refine z_iload C dL_same_42 7 rfl ?_
        refine z_imul C dL_same_44 ?_
        obtain ⟨g66, hF⟩ := zix_some hF
        refine z_iald (v := ((W 1) (5 * v6).toNatClampNeg)) C g66 31 rfl rfl rfl dL_same_45 ?_
        refine z_icmp_ne (tgt := 88) C dL_same_46 (by decide) (fun c67 => ?_) (fun c67 => ?_)
        · have hF := zelse hF c67
          refine z_iconst (v := 0) C dL_same_88 (by decide) ?_
          have hu := Option.some.inj hF
          subst hu
          refine z_widen (k := 3) (n := 18) (Nat.le_of_ble_eq_true rfl) (Nat.le_of_ble_eq_true rfl) ?_
          exact z_lretg C (zhb_0 (Nat.le_refl 0)) dL_same_89 rfl z_b0
        · have hF := zif hF c67
          refine z_aload_n C dL_same_49 rfl 1 rfl ?_
          refine z_iload C dL_same_50 7 rfl ?_
          obtain ⟨r68, er68, hF⟩ := zok_some hF
          refine z_gcallV_R (n := 1) (As := [.int v6]) (ws' := (zwX7 cI cJ cZ ab a5 a3 a6 a1 a0 B P M Tc Kc Uc Lc ++ zwW cI cJ cZ aw W O)) C C XE (fun _ _ h => h) (c_X7_endOf l hl D cI cJ cZ ab a5 a3 a6 a1 a0 B P M Tc Kc Uc Lc v6 (.inr r68) er68) gL_same_X7_endOf rfl (by decide +kernel) ⟨Nat.le_of_ble_eq_true rfl, Nat.le_of_ble_eq_true rfl⟩ ⟨Nat.zero_le _, Nat.zero_le _⟩ 0 rfl rfl [] (zwW cI cJ cZ aw W O) rfl rfl rfl rfl (Nat.le_of_ble_eq_true rfl) dL_same_52 ?_
          refine z_aload_n C dL_same_55 rfl 4 rfl ?_
          refine z_iconst (v := 5) C dL_same_56 (by decide) ?_
          refine z_iload C dL_same_57 7 rfl ?_
          refine z_imul C dL_same_59 ?_
          refine z_iconst (v := 2) C dL_same_60 (by decide) ?_
          refine z_iadd C dL_same_61 ?_
          obtain ⟨g69, hF⟩ := zix_some hF
          refine z_iald (v := ((W 1) ((5 * v6) + 2).toNatClampNeg)) C g69 31 rfl rfl rfl dL_same_62 ?_
          refine z_icmp_eq (tgt := 71) C dL_same_63 (by decide) (fun c70 => ?_) (fun c70 => ?_)
          · have hF := zif hF c70
            refine z_aload_n C dL_same_71 rfl 1 rfl ?_
            refine z_iload C dL_same_72 7 rfl ?_
            obtain ⟨r71, er71, hF⟩ := zok_some hF
            refine z_gcallV_R (n := 1) (As := [.int v6]) (ws' := (zwX7 cI cJ cZ ab a5 a3 a6 a1 a0 B P M Tc Kc Uc Lc ++ zwW cI cJ cZ aw W O)) C C XE (fun _ _ h => h) (c_X7_usesLeft l hl D cI cJ cZ ab a5 a3 a6 a1 a0 B P M Tc Kc Uc Lc v6 (.inr r71) er71) gL_same_X7_usesLeft rfl (by decide +kernel) ⟨Nat.le_of_ble_eq_true rfl, Nat.le_of_ble_eq_true rfl⟩ ⟨Nat.zero_le _, Nat.zero_le _⟩ 0 rfl rfl [] (zwW cI cJ cZ aw W O) rfl rfl rfl rfl (Nat.le_of_ble_eq_true rfl) dL_same_74 ?_
            refine z_aload_n C dL_same_77 rfl 4 rfl ?_
            refine z_iconst (v := 5) C dL_same_78 (by decide) ?_
            refine z_iload C dL_same_79 7 rfl ?_
            refine z_imul C dL_same_81 ?_
            refine z_iconst (v := 4) C dL_same_82 (by decide) ?_
            refine z_iadd C dL_same_83 ?_
            obtain ⟨g72, hF⟩ := zix_some hF
            refine z_iald (v := ((W 1) ((5 * v6) + 4).toNatClampNeg)) C g72 31 rfl rfl rfl dL_same_84 ?_
            refine z_icmp_eq (tgt := 90) C dL_same_85 (by decide) (fun c73 => ?_) (fun c73 => ?_)
            · have hF := zif hF c73
              refine z_iload C dL_same_90 0 rfl ?_
              refine z_if_eq (tgt := 129) C dL_same_92 (by decide) (fun c74 => ?_) (fun c74 => ?_)
              · have hF := zif hF c74
                refine z_iload C dL_same_129 6 rfl ?_
                refine z_istore (lv' := [(5, .int v5), (7, .int r62), (0, .ref ab), (1, .int v1), (2, .ref (aw 0)), (3, .ref (aw 1)), (4, .ref (aw 2)), (6, .int v6)]) C dL_same_131 (by decide) rfl ?_
                refine z_iinc (v := (v6 + 1)) (lv' := [(6, .int (v6 + 1)), (5, .int v5), (7, .int r62), (0, .ref ab), (1, .int v1), (2, .ref (aw 0)), (3, .ref (aw 1)), (4, .ref (aw 2))]) C dL_same_133 7 rfl rfl (by decide) rfl ?_
                refine z_goto (tgt := 6) C dL_same_136 (by decide) ?_
                exact z_sub C [3, 4, 5, 6, 7, 1, 0] rfl (ih Tc Kc Uc Lc v1 v5 (v6 + 1) hF)
              · have hF := zelse hF c74
                refine z_iload C dL_same_95 7 rfl ?_
                refine z_if_le (tgt := 129) C dL_same_97 (by decide) (fun c75 => ?_) (fun c75 => ?_)
                · have hF := zif hF c75
                  refine z_iload C dL_same_129 6 rfl ?_
                  refine z_istore (lv' := [(5, .int v5), (7, .int r62), (0, .ref ab), (1, .int v1), (2, .ref (aw 0)), (3, .ref (aw 1)), (4, .ref (aw 2)), (6, .int v6)]) C dL_same_131 (by decide) rfl ?_
                  refine z_iinc (v := (v6 + 1)) (lv' := [(6, .int (v6 + 1)), (5, .int v5), (7, .int r62), (0, .ref ab), (1, .int v1), (2, .ref (aw 0)), (3, .ref (aw 1)), (4, .ref (aw 2))]) C dL_same_133 7 rfl rfl (by decide) rfl ?_
                  refine z_goto (tgt := 6) C dL_same_136 (by decide) ?_
                  exact z_sub C [3, 4, 5, 6, 7, 1, 0] rfl (ih Tc Kc Uc Lc v1 v5 (v6 + 1) hF)
                · have hF := zelse hF c75
                  refine z_iload C dL_same_100 6 rfl ?_
                  refine z_if_lt (tgt := 118) C dL_same_102 (by decide) (fun c76 => ?_) (fun c76 => ?_)
                  · have hF := zif hF c76
                    refine z_aload_n C dL_same_118 rfl 4 rfl ?_
                    refine z_iconst (v := 5) C dL_same_119 (by decide) ?_
                    refine z_iload C dL_same_120 7 rfl ?_
                    refine z_imul C dL_same_122 ?_
                    refine z_iconst (v := 2) C dL_same_123 (by decide) ?_
                    refine z_iadd C dL_same_124 ?_
                    obtain ⟨g77, hF⟩ := zix_some hF
                    refine z_iald (v := ((W 1) ((5 * v6) + 2).toNatClampNeg)) C g77 31 rfl rfl rfl dL_same_125 ?_
                    refine z_goto (tgt := 131) C dL_same_126 (by decide) ?_
                    refine z_istore (lv' := [(5, .int ((W 1) ((5 * v6) + 2).toNatClampNeg)), (7, .int r62), (0, .ref ab), (1, .int v1), (2, .ref (aw 0)), (3, .ref (aw 1)), (4, .ref (aw 2)), (6, .int v6)]) C dL_same_131 (by decide) rfl ?_
                    refine z_iinc (v := (v6 + 1)) (lv' := [(6, .int (v6 + 1)), (5, .int ((W 1) ((5 * v6) + 2).toNatClampNeg)), (7, .int r62), (0, .ref ab), (1, .int v1), (2, .ref (aw 0)), (3, .ref (aw 1)), (4, .ref (aw 2))]) C dL_same_133 7 rfl rfl (by decide) rfl ?_
                    refine z_goto (tgt := 6) C dL_same_136 (by decide) ?_
                    exact z_sub C [3, 4, 5, 6, 7, 1, 0] rfl (ih Tc Kc Uc Lc v1 ((W 1) ((5 * v6) + 2).toNatClampNeg) (v6 + 1) hF)
                  · have hF := zelse hF c76
                    refine z_aload_n C dL_same_105 rfl 4 rfl ?_
                    refine z_iconst (v := 5) C dL_same_106 (by decide) ?_
                    refine z_iload C dL_same_107 7 rfl ?_
                    refine z_imul C dL_same_109 ?_
                    refine z_iconst (v := 2) C dL_same_110 (by decide) ?_
                    refine z_iadd C dL_same_111 ?_
                    obtain ⟨g78, hF⟩ := zix_some hF
                    refine z_iald (v := ((W 1) ((5 * v6) + 2).toNatClampNeg)) C g78 31 rfl rfl rfl dL_same_112 ?_
                    refine z_iload C dL_same_113 6 rfl ?_
                    refine z_icmp_ge (tgt := 129) C dL_same_115 (by decide) (fun c79 => ?_) (fun c79 => ?_)
                    · have hF := zif hF c79
                      refine z_iload C dL_same_129 6 rfl ?_
                      refine z_istore (lv' := [(5, .int v5), (7, .int r62), (0, .ref ab), (1, .int v1), (2, .ref (aw 0)), (3, .ref (aw 1)), (4, .ref (aw 2)), (6, .int v6)]) C dL_same_131 (by decide) rfl ?_
                      refine z_iinc (v := (v6 + 1)) (lv' := [(6, .int (v6 + 1)), (5, .int v5), (7, .int r62), (0, .ref ab), (1, .int v1), (2, .ref (aw 0)), (3, .ref (aw 1)), (4, .ref (aw 2))]) C dL_same_133 7 rfl rfl (by decide) rfl ?_
                      refine z_goto (tgt := 6) C dL_same_136 (by decide) ?_
                      exact z_sub C [3, 4, 5, 6, 7, 1, 0] rfl (ih Tc Kc Uc Lc v1 v5 (v6 + 1) hF)
                    · have hF := zelse hF c79
                      refine z_aload_n C dL_same_118 rfl 4 rfl ?_
                      refine z_iconst (v := 5) C dL_same_119 (by decide) ?_
                      refine z_iload C dL_same_120 7 rfl ?_
                      refine z_imul C dL_same_122 ?_
                      refine z_iconst (v := 2) C dL_same_123 (by decide) ?_
                      refine z_iadd C dL_same_124 ?_
                      obtain ⟨g80, hF⟩ := zix_some hF
                      refine z_iald (v := ((W 1) ((5 * v6) + 2).toNatClampNeg)) C g80 31 rfl rfl rfl dL_same_125 ?_
                      refine z_goto (tgt := 131) C dL_same_126 (by decide) ?_
                      refine z_istore (lv' := [(5, .int ((W 1) ((5 * v6) + 2).toNatClampNeg)), (7, .int r62), (0, .ref ab), (1, .int v1), (2, .ref (aw 0)), (3, .ref (aw 1)), (4, .ref (aw 2)), (6, .int v6)]) C dL_same_131 (by decide) rfl ?_
                      refine z_iinc (v := (v6 + 1)) (lv' := [(6, .int (v6 + 1)), (5, .int ((W 1) ((5 * v6) + 2).toNatClampNeg)), (7, .int r62), (0, .ref ab), (1, .int v1), (2, .ref (aw 0)), (3, .ref (aw 1)), (4, .ref (aw 2))]) C dL_same_133 7 rfl rfl (by decide) rfl ?_
                      refine z_goto (tgt := 6) C dL_same_136 (by decide) ?_
                      exact z_sub C [3, 4, 5, 6, 7, 1, 0] rfl (ih Tc Kc Uc Lc v1 ((W 1) ((5 * v6) + 2).toNatClampNeg) (v6 + 1) hF)
            · have hF := zelse hF c73
              refine z_iconst (v := 0) C dL_same_88 (by decide) ?_
              have hu := Option.some.inj hF
              subst hu
              refine z_widen (k := 3) (n := 18) (Nat.le_of_ble_eq_true rfl) (Nat.le_of_ble_eq_true rfl) ?_
              exact z_lretg C (zhb_0 (Nat.le_refl 0)) dL_same_89 rfl z_b0
          · have hF := zelse hF c70
            refine z_iload C dL_same_66 7 rfl ?_
            refine z_if_gt (tgt := 88) C dL_same_68 (by decide) (fun c81 => ?_) (fun c81 => ?_)
            · have hF := zif hF c81
              refine z_iconst (v := 0) C dL_same_88 (by decide) ?_
              have hu := Option.some.inj hF
              subst hu
              refine z_widen (k := 3) (n := 18) (Nat.le_of_ble_eq_true rfl) (Nat.le_of_ble_eq_true rfl) ?_
              exact z_lretg C (zhb_0 (Nat.le_refl 0)) dL_same_89 rfl z_b0
            · have hF := zelse hF c81
              refine z_aload_n C dL_same_71 rfl 1 rfl ?_
              refine z_iload C dL_same_72 7 rfl ?_
              obtain ⟨r82, er82, hF⟩ := zok_some hF
              refine z_gcallV_R (n := 1) (As := [.int v6]) (ws' := (zwX7 cI cJ cZ ab a5 a3 a6 a1 a0 B P M Tc Kc Uc Lc ++ zwW cI cJ cZ aw W O)) C C XE (fun _ _ h => h) (c_X7_usesLeft l hl D cI cJ cZ ab a5 a3 a6 a1 a0 B P M Tc Kc Uc Lc v6 (.inr r82) er82) gL_same_X7_usesLeft rfl (by decide +kernel) ⟨Nat.le_of_ble_eq_true rfl, Nat.le_of_ble_eq_true rfl⟩ ⟨Nat.zero_le _, Nat.zero_le _⟩ 0 rfl rfl [] (zwW cI cJ cZ aw W O) rfl rfl rfl rfl (Nat.le_of_ble_eq_true rfl) dL_same_74 ?_
              refine z_aload_n C dL_same_77 rfl 4 rfl ?_
              refine z_iconst (v := 5) C dL_same_78 (by decide) ?_
              refine z_iload C dL_same_79 7 rfl ?_
              refine z_imul C dL_same_81 ?_
              refine z_iconst (v := 4) C dL_same_82 (by decide) ?_
              refine z_iadd C dL_same_83 ?_
              obtain ⟨g83, hF⟩ := zix_some hF
              refine z_iald (v := ((W 1) ((5 * v6) + 4).toNatClampNeg)) C g83 31 rfl rfl rfl dL_same_84 ?_
              refine z_icmp_eq (tgt := 90) C dL_same_85 (by decide) (fun c84 => ?_) (fun c84 => ?_)
              · have hF := zif hF c84
                refine z_iload C dL_same_90 0 rfl ?_
                refine z_if_eq (tgt := 129) C dL_same_92 (by decide) (fun c85 => ?_) (fun c85 => ?_)
                · have hF := zif hF c85
                  refine z_iload C dL_same_129 6 rfl ?_
                  refine z_istore (lv' := [(5, .int v5), (7, .int r62), (0, .ref ab), (1, .int v1), (2, .ref (aw 0)), (3, .ref (aw 1)), (4, .ref (aw 2)), (6, .int v6)]) C dL_same_131 (by decide) rfl ?_
                  refine z_iinc (v := (v6 + 1)) (lv' := [(6, .int (v6 + 1)), (5, .int v5), (7, .int r62), (0, .ref ab), (1, .int v1), (2, .ref (aw 0)), (3, .ref (aw 1)), (4, .ref (aw 2))]) C dL_same_133 7 rfl rfl (by decide) rfl ?_
                  refine z_goto (tgt := 6) C dL_same_136 (by decide) ?_
                  exact z_sub C [3, 4, 5, 6, 7, 1, 0] rfl (ih Tc Kc Uc Lc v1 v5 (v6 + 1) hF)
                · have hF := zelse hF c85
                  refine z_iload C dL_same_95 7 rfl ?_
                  refine z_if_le (tgt := 129) C dL_same_97 (by decide) (fun c86 => ?_) (fun c86 => ?_)
                  · have hF := zif hF c86
                    refine z_iload C dL_same_129 6 rfl ?_
                    refine z_istore (lv' := [(5, .int v5), (7, .int r62), (0, .ref ab), (1, .int v1), (2, .ref (aw 0)), (3, .ref (aw 1)), (4, .ref (aw 2)), (6, .int v6)]) C dL_same_131 (by decide) rfl ?_
                    refine z_iinc (v := (v6 + 1)) (lv' := [(6, .int (v6 + 1)), (5, .int v5), (7, .int r62), (0, .ref ab), (1, .int v1), (2, .ref (aw 0)), (3, .ref (aw 1)), (4, .ref (aw 2))]) C dL_same_133 7 rfl rfl (by decide) rfl ?_
                    refine z_goto (tgt := 6) C dL_same_136 (by decide) ?_
                    exact z_sub C [3, 4, 5, 6, 7, 1, 0] rfl (ih Tc Kc Uc Lc v1 v5 (v6 + 1) hF)
                  · have hF := zelse hF c86
                    refine z_iload C dL_same_100 6 rfl ?_
                    refine z_if_lt (tgt := 118) C dL_same_102 (by decide) (fun c87 => ?_) (fun c87 => ?_)
                    · have hF := zif hF c87
                      refine z_aload_n C dL_same_118 rfl 4 rfl ?_
                      refine z_iconst (v := 5) C dL_same_119 (by decide) ?_
                      refine z_iload C dL_same_120 7 rfl ?_
                      refine z_imul C dL_same_122 ?_
                      refine z_iconst (v := 2) C dL_same_123 (by decide) ?_
                      refine z_iadd C dL_same_124 ?_
                      obtain ⟨g88, hF⟩ := zix_some hF
                      refine z_iald (v := ((W 1) ((5 * v6) + 2).toNatClampNeg)) C g88 31 rfl rfl rfl dL_same_125 ?_
                      refine z_goto (tgt := 131) C dL_same_126 (by decide) ?_
                      refine z_istore (lv' := [(5, .int ((W 1) ((5 * v6) + 2).toNatClampNeg)), (7, .int r62), (0, .ref ab), (1, .int v1), (2, .ref (aw 0)), (3, .ref (aw 1)), (4, .ref (aw 2)), (6, .int v6)]) C dL_same_131 (by decide) rfl ?_
                      refine z_iinc (v := (v6 + 1)) (lv' := [(6, .int (v6 + 1)), (5, .int ((W 1) ((5 * v6) + 2).toNatClampNeg)), (7, .int r62), (0, .ref ab), (1, .int v1), (2, .ref (aw 0)), (3, .ref (aw 1)), (4, .ref (aw 2))]) C dL_same_133 7 rfl rfl (by decide) rfl ?_
                      refine z_goto (tgt := 6) C dL_same_136 (by decide) ?_
                      exact z_sub C [3, 4, 5, 6, 7, 1, 0] rfl (ih Tc Kc Uc Lc v1 ((W 1) ((5 * v6) + 2).toNatClampNeg) (v6 + 1) hF)
                    · have hF := zelse hF c87
                      refine z_aload_n C dL_same_105 rfl 4 rfl ?_
                      refine z_iconst (v := 5) C dL_same_106 (by decide) ?_
                      refine z_iload C dL_same_107 7 rfl ?_
                      refine z_imul C dL_same_109 ?_
                      refine z_iconst (v := 2) C dL_same_110 (by decide) ?_
                      refine z_iadd C dL_same_111 ?_
                      obtain ⟨g89, hF⟩ := zix_some hF
                      refine z_iald (v := ((W 1) ((5 * v6) + 2).toNatClampNeg)) C g89 31 rfl rfl rfl dL_same_112 ?_
                      refine z_iload C dL_same_113 6 rfl ?_
                      refine z_icmp_ge (tgt := 129) C dL_same_115 (by decide) (fun c90 => ?_) (fun c90 => ?_)
                      · have hF := zif hF c90
                        refine z_iload C dL_same_129 6 rfl ?_
                        refine z_istore (lv' := [(5, .int v5), (7, .int r62), (0, .ref ab), (1, .int v1), (2, .ref (aw 0)), (3, .ref (aw 1)), (4, .ref (aw 2)), (6, .int v6)]) C dL_same_131 (by decide) rfl ?_
                        refine z_iinc (v := (v6 + 1)) (lv' := [(6, .int (v6 + 1)), (5, .int v5), (7, .int r62), (0, .ref ab), (1, .int v1), (2, .ref (aw 0)), (3, .ref (aw 1)), (4, .ref (aw 2))]) C dL_same_133 7 rfl rfl (by decide) rfl ?_
                        refine z_goto (tgt := 6) C dL_same_136 (by decide) ?_
                        exact z_sub C [3, 4, 5, 6, 7, 1, 0] rfl (ih Tc Kc Uc Lc v1 v5 (v6 + 1) hF)
                      · have hF := zelse hF c90
                        refine z_aload_n C dL_same_118 rfl 4 rfl ?_
                        refine z_iconst (v := 5) C dL_same_119 (by decide) ?_
                        refine z_iload C dL_same_120 7 rfl ?_
                        refine z_imul C dL_same_122 ?_
                        refine z_iconst (v := 2) C dL_same_123 (by decide) ?_
                        refine z_iadd C dL_same_124 ?_
                        obtain ⟨g91, hF⟩ := zix_some hF
                        refine z_iald (v := ((W 1) ((5 * v6) + 2).toNatClampNeg)) C g91 31 rfl rfl rfl dL_same_125 ?_
                        refine z_goto (tgt := 131) C dL_same_126 (by decide) ?_
                        refine z_istore (lv' := [(5, .int ((W 1) ((5 * v6) + 2).toNatClampNeg)), (7, .int r62), (0, .ref ab), (1, .int v1), (2, .ref (aw 0)), (3, .ref (aw 1)), (4, .ref (aw 2)), (6, .int v6)]) C dL_same_131 (by decide) rfl ?_
                        refine z_iinc (v := (v6 + 1)) (lv' := [(6, .int (v6 + 1)), (5, .int ((W 1) ((5 * v6) + 2).toNatClampNeg)), (7, .int r62), (0, .ref ab), (1, .int v1), (2, .ref (aw 0)), (3, .ref (aw 1)), (4, .ref (aw 2))]) C dL_same_133 7 rfl rfl (by decide) rfl ?_
                        refine z_goto (tgt := 6) C dL_same_136 (by decide) ?_
                        exact z_sub C [3, 4, 5, 6, 7, 1, 0] rfl (ih Tc Kc Uc Lc v1 ((W 1) ((5 * v6) + 2).toNatClampNeg) (v6 + 1) hF)
              · have hF := zelse hF c84
                refine z_iconst (v := 0) C dL_same_88 (by decide) ?_
                have hu := Option.some.inj hF
                subst hu
                refine z_widen (k := 3) (n := 18) (Nat.le_of_ble_eq_true rfl) (Nat.le_of_ble_eq_true rfl) ?_
                exact z_lretg C (zhb_0 (Nat.le_refl 0)) dL_same_89 rfl z_b0
set_option maxHeartbeats 4000000 in
set_option maxRecDepth 100000 in
theorem c_L_same (l : Launch) (hl : l.stackTraces = false) (D : va_G) (cI cJ cZ : ClassId) (ab : Nat) (a5 : Nat → Nat) (a3 : Nat → Nat) (a6 : Nat → Nat) (a1 : Nat → Nat) (a0 : Nat → Nat) (aw : Nat → Nat) (B : SS) (P : SS) (M : SS) (T : SS) (K : SS) (U : SS) (W : SS) (L : SL) (O : SL) (x2 : Int32) (u : Int32 × SS × SS × SS × SL) (hF : f_L_same B P M T K U L W x2 = some u) : zL l yL_same wsL_same 10 194 3 18 D (zTy cI cJ cZ) [.ref ab, .int x2, .ref (aw 0), .ref (aw 1), .ref (aw 2)] (zwX7 cI cJ cZ ab a5 a3 a6 a1 a0 B P M T K U L ++ zwW cI cJ cZ aw W O) (some (.int u.1)) (zwX7 cI cJ cZ ab a5 a3 a6 a1 a0 B P M u.2.1 u.2.2.1 u.2.2.2.1 u.2.2.2.2 ++ zwW cI cJ cZ aw W O) (if u.1 = 0 then 0 else 3) := by
  refine z_lbody (cc := cL_same) (maxL := 11) (rty := (some .boolean)) (own := RL) (lv := [(0, .ref ab), (1, .int x2), (2, .ref (aw 0)), (3, .ref (aw 1)), (4, .ref (aw 2))]) (by decide +kernel) rfl rfl (Nat.le_of_ble_eq_true rfl) rfl (fun p e s m args below meth c A C XE XN => ?_)
  refine z_iconst (v := (-1)) C dL_same_0 (by decide) ?_
  refine z_istore (lv' := [(5, .int (-1)), (0, .ref ab), (1, .int x2), (2, .ref (aw 0)), (3, .ref (aw 1)), (4, .ref (aw 2))]) C dL_same_1 (by decide) rfl ?_
  refine z_iconst (v := 0) C dL_same_3 (by decide) ?_
  refine z_istore (lv' := [(6, .int 0), (5, .int (-1)), (0, .ref ab), (1, .int x2), (2, .ref (aw 0)), (3, .ref (aw 1)), (4, .ref (aw 2))]) C dL_same_4 (by decide) rfl ?_
  exact z_sub C [2, 3, 4, 5, 6, 1, 0] rfl (c_L_same_j6 l hl D cI cJ cZ ab a5 a3 a6 a1 a0 aw B P M T K U W L O u C XE XN 600 T K U L x2 (-1) 0 hF)
set_option maxHeartbeats 4000000 in
set_option maxRecDepth 100000 in
theorem c_L_path_j16 (l : Launch) (D : va_G) (cI cJ cZ : ClassId) (u : Int32) {p : Program} {e : Env} {s : State} {m : MethodId} {args : Array Value} {below : List Frame} {meth : Method} {c : Code} {A : Nat → Prop} (C : zC p s m args meth c cL_path 4 (some .int) RL wsL_path D (zTy cI cJ cZ) A s.heap) : ∀ (n : Nat) (v0 : Int32) (v1 : Int32) (v2 : Int32) (v3 : Int32), f_L_path_16 n v0 v1 v2 v3 = some u → zW p l e { frames := 1, cells := 0, slots := 0, locals := 21 } s m args below meth c 4 D A s.heap 0 0 (MQ below (zQ D (zTy cI cJ cZ) (some (.int u)) [] A) args s 0 0 A) [] [(0, .int v0), (1, .int v1), (2, .int v2), (3, .int v3)] 16 [] := by
  intro n
  induction n with
  | zero => intro v0 v1 v2 v3 hF; exact absurd (show none = some u from hF) (fun q => nomatch q)
  | succ n ih =>
    intro v0 v1 v2 v3 hF
    refine z_iload_n C dL_path_16 rfl 3 rfl ?_
    refine z_if_le (tgt := 45) C dL_path_17 (by decide) (fun c3 => ?_) (fun c3 => ?_)
    · have hF := zif hF c3
      refine z_iload_n C dL_path_45 rfl 2 rfl ?_
      have hu := Option.some.inj hF
      subst hu
      exact z_iret C dL_path_46 rfl rfl
    · have hF := zelse hF c3
      refine z_bipush (v := 10) C dL_path_20 (by decide) ?_
      refine z_iload_n C dL_path_22 rfl 2 rfl ?_
      refine z_imul C dL_path_23 ?_
      refine z_iconst (v := 1) C dL_path_24 (by decide) ?_
      refine z_iadd C dL_path_25 ?_
      refine z_iload_n C dL_path_26 rfl 0 rfl ?_
      refine z_iconst (v := 3) C dL_path_27 (by decide) ?_
      refine z_iconst (v := 3) C dL_path_28 (by decide) ?_
      refine z_iload_n C dL_path_29 rfl 3 rfl ?_
      refine z_imul C dL_path_30 ?_
      refine z_iadd C dL_path_31 ?_
      refine z_ishr C dL_path_32 ?_
      refine z_iload_n C dL_path_33 rfl 1 rfl ?_
      obtain ⟨r4, er4, hF⟩ := zbd hF
      refine z_callS (n := 2) (As := [.int (v0 >>> ((3 + (3 * v3)) &&& 31)), .int v1]) C (c_L_low l D cI cJ cZ (v0 >>> ((3 + (3 * v3)) &&& 31)) v1 r4 er4) gL_path_L_low rfl rfl rfl (by decide +kernel) ⟨Nat.le_of_ble_eq_true rfl, Nat.le_of_ble_eq_true rfl⟩ ⟨Nat.zero_le _, Nat.zero_le _⟩ rfl rfl (Nat.le_of_ble_eq_true rfl) dL_path_34 ?_
      refine z_iadd C dL_path_37 ?_
      refine z_istore_n (lv' := [(2, .int (((10 * v2) + 1) + r4)), (0, .int v0), (1, .int v1), (3, .int v3)]) C dL_path_38 rfl (by decide) rfl ?_
      refine z_iinc (v := (v3 + (-1))) (lv' := [(3, .int (v3 + (-1))), (2, .int (((10 * v2) + 1) + r4)), (0, .int v0), (1, .int v1)]) C dL_path_39 3 rfl rfl (by decide) rfl ?_
      refine z_goto (tgt := 16) C dL_path_42 (by decide) ?_
      exact z_sub C [2, 3, 1, 0] rfl (ih v0 v1 (((10 * v2) + 1) + r4) (v3 + (-1)) hF)
set_option maxHeartbeats 4000000 in
set_option maxRecDepth 100000 in
theorem c_L_path (l : Launch) (D : va_G) (cI cJ cZ : ClassId) (x1 : Int32) (x2 : Int32) (u : Int32) (hF : f_L_path x1 x2 = some u) : zM l yL_path wsL_path ({ frames := 1, cells := 0, slots := 0, locals := 21 }) D (zTy cI cJ cZ) [.int x1, .int x2] [] (some (.int u)) [] := by
  refine z_body (cc := cL_path) (maxL := 4) (rty := (some .int)) (own := RL) (lv := [(0, .int x1), (1, .int x2)]) (by decide +kernel) rfl rfl (Nat.le_of_ble_eq_true rfl) rfl (fun p e s m args below meth c A C => ?_)
  refine z_iconst (v := 1) C dL_path_0 (by decide) ?_
  refine z_iload_n C dL_path_1 rfl 0 rfl ?_
  refine z_iload_n C dL_path_2 rfl 1 rfl ?_
  obtain ⟨r1, er1, hF⟩ := zbd hF
  refine z_callS (n := 2) (As := [.int x1, .int x2]) C (c_L_low l D cI cJ cZ x1 x2 r1 er1) gL_path_L_low rfl rfl rfl (by decide +kernel) ⟨Nat.le_of_ble_eq_true rfl, Nat.le_of_ble_eq_true rfl⟩ ⟨Nat.zero_le _, Nat.zero_le _⟩ rfl rfl (Nat.le_of_ble_eq_true rfl) dL_path_3 ?_
  refine z_iadd C dL_path_6 ?_
  refine z_istore_n (lv' := [(2, .int (1 + r1)), (0, .int x1), (1, .int x2)]) C dL_path_7 rfl (by decide) rfl ?_
  refine z_iload_n C dL_path_8 rfl 1 rfl ?_
  refine z_iconst (v := 3) C dL_path_9 (by decide) ?_
  refine z_ishr C dL_path_10 ?_
  refine z_iconst (v := 4) C dL_path_11 (by decide) ?_
  obtain ⟨r2, er2, hF⟩ := zbd hF
  refine z_callS (n := 2) (As := [.int (x1 >>> (3 &&& 31)), .int 4]) C (c_L_low l D cI cJ cZ (x1 >>> (3 &&& 31)) 4 r2 er2) gL_path_L_low rfl rfl rfl (by decide +kernel) ⟨Nat.le_of_ble_eq_true rfl, Nat.le_of_ble_eq_true rfl⟩ ⟨Nat.zero_le _, Nat.zero_le _⟩ rfl rfl (Nat.le_of_ble_eq_true rfl) dL_path_12 ?_
  refine z_istore_n (lv' := [(3, .int r2), (2, .int (1 + r1)), (0, .int x1), (1, .int x2)]) C dL_path_15 rfl (by decide) rfl ?_
  exact z_sub C [2, 3, 1, 0] rfl (c_L_path_j16 l D cI cJ cZ u C 600 x1 x2 (1 + r1) r2 hF)
