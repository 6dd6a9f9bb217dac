theorem kL_low_9 : Cond.constant RL 9 (2147483647) ∈ wsL_low := by decide +kernel
set_option maxHeartbeats 4000000 in
set_option maxRecDepth 100000 in
theorem c_L_low (l : Launch) (D : va_G) (cI cJ cZ : ClassId) (x1 : Int32) (x2 : Int32) (u : Int32) (hF : f_L_low x1 x2 = some u) : zM l yL_low wsL_low ({ frames := 0, cells := 0, slots := 0, locals := 0 }) D (zTy cI cJ cZ) [.int x1, .int x2] [] (some (.int u)) [] := by
  refine z_body (cc := cL_low) (maxL := 2) (rty := (some .int)) (own := RL) (lv := [(0, .int x1), (1, .int x2)]) (by decide +kernel) rfl rfl (Nat.le_of_ble_eq_true rfl) rfl (fun p e s m args below meth c A C => ?_)
  refine z_iload_n C dL_low_0 rfl 0 rfl ?_
  refine z_ldc (v := 2147483647) C kL_low_9 dL_low_1 ?_
  refine z_iand C dL_low_3 ?_
  refine z_iload_n C dL_low_4 rfl 1 rfl ?_
  obtain ⟨g1, hF⟩ := zne_some hF
  refine z_irem C dL_low_5 g1 ?_
  have hu := Option.some.inj hF
  subst hu
  exact z_iret C dL_low_6 rfl rfl
set_option maxHeartbeats 4000000 in
set_option maxRecDepth 100000 in
theorem c_L_ten_j4 (l : Launch) (D : va_G) (cI cJ cZ : ClassId) (u : Int32) {p : Program} {e : Env} {s : State} {m : MethodId} {args : Array Value} {below : List Frame} {meth : Method} {c : Code} {A : Nat → Prop} (C : zC p s m args meth c cL_ten 3 (some .int) RL wsL_ten D (zTy cI cJ cZ) A s.heap) : ∀ (n : Nat) (v0 : Int32) (v1 : Int32) (v2 : Int32), f_L_ten_4 n v0 v1 v2 = some u → zW p l e { frames := 0, cells := 0, slots := 0, locals := 0 } s m args below meth c 3 D A s.heap 0 0 (MQ below (zQ D (zTy cI cJ cZ) (some (.int u)) [] A) args s 0 0 A) [] [(0, .int v0), (1, .int v1), (2, .int v2)] 4 [] := by
  intro n
  induction n with
  | zero => intro v0 v1 v2 hF; exact absurd (show none = some u from hF) (fun q => nomatch q)
  | succ n ih =>
    intro v0 v1 v2 hF
    refine z_iload_n C dL_ten_4 rfl 2 rfl ?_
    refine z_iload_n C dL_ten_5 rfl 0 rfl ?_
    refine z_icmp_ge (tgt := 20) C dL_ten_6 (by decide) (fun c1 => ?_) (fun c1 => ?_)
    · have hF := zif hF c1
      refine z_iload_n C dL_ten_20 rfl 1 rfl ?_
      have hu := Option.some.inj hF
      subst hu
      exact z_iret C dL_ten_21 rfl rfl
    · have hF := zelse hF c1
      refine z_iload_n C dL_ten_9 rfl 1 rfl ?_
      refine z_bipush (v := 10) C dL_ten_10 (by decide) ?_
      refine z_imul C dL_ten_12 ?_
      refine z_istore_n (lv' := [(1, .int (v1 * 10)), (0, .int v0), (2, .int v2)]) C dL_ten_13 rfl (by decide) rfl ?_
      refine z_iinc (v := (v2 + 1)) (lv' := [(2, .int (v2 + 1)), (1, .int (v1 * 10)), (0, .int v0)]) C dL_ten_14 2 rfl rfl (by decide) rfl ?_
      refine z_goto (tgt := 4) C dL_ten_17 (by decide) ?_
      exact z_sub C [2, 1, 0] rfl (ih v0 (v1 * 10) (v2 + 1) hF)
set_option maxHeartbeats 4000000 in
set_option maxRecDepth 100000 in
theorem c_L_ten (l : Launch) (D : va_G) (cI cJ cZ : ClassId) (x1 : Int32) (u : Int32) (hF : f_L_ten x1 = some u) : zM l yL_ten wsL_ten ({ frames := 0, cells := 0, slots := 0, locals := 0 }) D (zTy cI cJ cZ) [.int x1] [] (some (.int u)) [] := by
  refine z_body (cc := cL_ten) (maxL := 3) (rty := (some .int)) (own := RL) (lv := [(0, .int x1)]) (by decide +kernel) rfl rfl (Nat.le_of_ble_eq_true rfl) rfl (fun p e s m args below meth c A C => ?_)
  refine z_iconst (v := 1) C dL_ten_0 (by decide) ?_
  refine z_istore_n (lv' := [(1, .int 1), (0, .int x1)]) C dL_ten_1 rfl (by decide) rfl ?_
  refine z_iconst (v := 0) C dL_ten_2 (by decide) ?_
  refine z_istore_n (lv' := [(2, .int 0), (1, .int 1), (0, .int x1)]) C dL_ten_3 rfl (by decide) rfl ?_
  exact z_sub C [2, 1, 0] rfl (c_L_ten_j4 l D cI cJ cZ u C 600 x1 1 0 hF)
set_option maxHeartbeats 4000000 in
set_option maxRecDepth 100000 in
theorem c_L_digits_j2 (l : Launch) (D : va_G) (cI cJ cZ : ClassId) (u : Int32) {p : Program} {e : Env} {s : State} {m : MethodId} {args : Array Value} {below : List Frame} {meth : Method} {c : Code} {A : Nat → Prop} (C : zC p s m args meth c cL_digits 2 (some .int) RL wsL_digits D (zTy cI cJ cZ) A s.heap) : ∀ (n : Nat) (v0 : Int32) (v1 : Int32), f_L_digits_2 n v0 v1 = some u → zW p l e { frames := 1, cells := 0, slots := 0, locals := 22 } s m args below meth c 2 D A s.heap 0 0 (MQ below (zQ D (zTy cI cJ cZ) (some (.int u)) [] A) args s 0 0 A) [] [(0, .int v0), (1, .int v1)] 2 [] := by
  intro n
  induction n with
  | zero => intro v0 v1 hF; exact absurd (show none = some u from hF) (fun q => nomatch q)
  | succ n ih =>
    intro v0 v1 hF
    refine z_iload_n C dL_digits_2 rfl 0 rfl ?_
    refine z_iload_n C dL_digits_3 rfl 1 rfl ?_
    obtain ⟨r1, er1, hF⟩ := zbd hF
    refine z_callS (n := 1) (As := [.int v1]) C (c_L_ten l D cI cJ cZ v1 r1 er1) gL_digits_L_ten rfl rfl rfl (by decide +kernel) ⟨Nat.le_of_ble_eq_true rfl, Nat.le_of_ble_eq_true rfl⟩ ⟨Nat.zero_le _, Nat.zero_le _⟩ rfl rfl (Nat.le_of_ble_eq_true rfl) dL_digits_4 ?_
    refine z_icmp_lt (tgt := 16) C dL_digits_7 (by decide) (fun c2 => ?_) (fun c2 => ?_)
    · have hF := zif hF c2
      refine z_iload_n C dL_digits_16 rfl 1 rfl ?_
      have hu := Option.some.inj hF
      subst hu
      exact z_iret C dL_digits_17 rfl rfl
    · have hF := zelse hF c2
      refine z_iinc (v := (v1 + 1)) (lv' := [(1, .int (v1 + 1)), (0, .int v0)]) C dL_digits_10 1 rfl rfl (by decide) rfl ?_
      refine z_goto (tgt := 2) C dL_digits_13 (by decide) ?_
      exact z_sub C [1, 0] rfl (ih v0 (v1 + 1) hF)
set_option maxHeartbeats 4000000 in
set_option maxRecDepth 100000 in
theorem c_L_digits (l : Launch) (D : va_G) (cI cJ cZ : ClassId) (x1 : Int32) (u : Int32) (hF : f_L_digits x1 = some u) : zM l yL_digits wsL_digits ({ frames := 1, cells := 0, slots := 0, locals := 22 }) D (zTy cI cJ cZ) [.int x1] [] (some (.int u)) [] := by
  refine z_body (cc := cL_digits) (maxL := 2) (rty := (some .int)) (own := RL) (lv := [(0, .int x1)]) (by decide +kernel) rfl rfl (Nat.le_of_ble_eq_true rfl) rfl (fun p e s m args below meth c A C => ?_)
  refine z_iconst (v := 0) C dL_digits_0 (by decide) ?_
  refine z_istore_n (lv' := [(1, .int 0), (0, .int x1)]) C dL_digits_1 rfl (by decide) rfl ?_
  exact z_sub C [1, 0] rfl (c_L_digits_j2 l D cI cJ cZ u C 600 x1 0 hF)
set_option maxHeartbeats 4000000 in
set_option maxRecDepth 100000 in
theorem c_L_isBelow (l : Launch) (D : va_G) (cI cJ cZ : ClassId) (x1 : Int32) (x2 : Int32) (u : Int32) (hF : f_L_isBelow x1 x2 = some u) : zM l yL_isBelow wsL_isBelow ({ frames := 2, cells := 0, slots := 0, locals := 43 }) D (zTy cI cJ cZ) [.int x1, .int x2] [] (some (.int u)) [] := by
  refine z_body (cc := cL_isBelow) (maxL := 3) (rty := (some .boolean)) (own := RL) (lv := [(0, .int x1), (1, .int x2)]) (by decide +kernel) rfl rfl (Nat.le_of_ble_eq_true rfl) rfl (fun p e s m args below meth c A C => ?_)
  refine z_iload_n C dL_isBelow_0 rfl 0 rfl ?_
  obtain ⟨r1, er1, hF⟩ := zbd hF
  refine z_callS (n := 1) (As := [.int x1]) C (c_L_digits l D cI cJ cZ x1 r1 er1) gL_isBelow_L_digits rfl rfl rfl (by decide +kernel) ⟨Nat.le_of_ble_eq_true rfl, Nat.le_of_ble_eq_true rfl⟩ ⟨Nat.zero_le _, Nat.zero_le _⟩ rfl rfl (Nat.le_of_ble_eq_true rfl) dL_isBelow_1 ?_
  refine z_iload_n C dL_isBelow_4 rfl 1 rfl ?_
  obtain ⟨r2, er2, hF⟩ := zbd hF
  refine z_callS (n := 1) (As := [.int x2]) C (c_L_digits l D cI cJ cZ x2 r2 er2) gL_isBelow_L_digits rfl rfl rfl (by decide +kernel) ⟨Nat.le_of_ble_eq_true rfl, Nat.le_of_ble_eq_true rfl⟩ ⟨Nat.zero_le _, Nat.zero_le _⟩ rfl rfl (Nat.le_of_ble_eq_true rfl) dL_isBelow_5 ?_
  refine z_isub C dL_isBelow_8 ?_
  refine z_istore_n (lv' := [(2, .int (r1 - r2)), (0, .int x1), (1, .int x2)]) C dL_isBelow_9 rfl (by decide) rfl ?_
  refine z_iload_n C dL_isBelow_10 rfl 0 rfl ?_
  refine z_if_lt (tgt := 28) C dL_isBelow_11 (by decide) (fun c3 => ?_) (fun c3 => ?_)
  · have hF := zif hF c3
    refine z_iconst (v := 0) C dL_isBelow_28 (by decide) ?_
    have hu := Option.some.inj hF
    subst hu
    exact z_iret C dL_isBelow_29 rfl z_b0
  · have hF := zelse hF c3
    refine z_iload_n C dL_isBelow_14 rfl 1 rfl ?_
    refine z_iload_n C dL_isBelow_15 rfl 0 rfl ?_
    obtain ⟨r4, er4, hF⟩ := zbd hF
    refine z_callS (n := 1) (As := [.int (r1 - r2)]) C (c_L_ten l D cI cJ cZ (r1 - r2) r4 er4) gL_isBelow_L_ten rfl rfl rfl (by decide +kernel) ⟨Nat.le_of_ble_eq_true rfl, Nat.le_of_ble_eq_true rfl⟩ ⟨Nat.zero_le _, Nat.zero_le _⟩ rfl rfl (Nat.le_of_ble_eq_true rfl) dL_isBelow_16 ?_
    obtain ⟨g5, hF⟩ := zne_some hF
    refine z_idiv C dL_isBelow_19 g5 ?_
    refine z_iload_n C dL_isBelow_20 rfl 2 rfl ?_
    refine z_icmp_ne (tgt := 28) C dL_isBelow_21 (by decide) (fun c6 => ?_) (fun c6 => ?_)
    · have hF := zelse hF c6
      refine z_iconst (v := 0) C dL_isBelow_28 (by decide) ?_
      have hu := Option.some.inj hF
      subst hu
      exact z_iret C dL_isBelow_29 rfl z_b0
    · have hF := zif hF c6
      refine z_iconst (v := 1) C dL_isBelow_24 (by decide) ?_
      refine z_goto (tgt := 29) C dL_isBelow_25 (by decide) ?_
      have hu := Option.some.inj hF
      subst hu
      exact z_iret C dL_isBelow_29 rfl z_b1
set_option maxHeartbeats 4000000 in
set_option maxRecDepth 100000 in
theorem c_L_fit_j35 (l : Launch) (D : va_G) (cI cJ cZ : ClassId) (u : Int32) {p : Program} {e : Env} {s : State} {m : MethodId} {args : Array Value} {below : List Frame} {meth : Method} {c : Code} {A : Nat → Prop} (C : zC p s m args meth c cL_fit 8 (some .int) RL wsL_fit D (zTy cI cJ cZ) A s.heap) : ∀ (n : Nat) (v0 : Int32) (v1 : Int32) (v2 : Int32) (v3 : Int32) (v4 : Int32) (v5 : Int32) (v6 : Int32), f_L_fit_35 n v0 v1 v2 v3 v4 v5 v6 = some u → zW p l e { frames := 2, cells := 0, slots := 0, locals := 43 } s m args below meth c 8 D A s.heap 0 0 (MQ below (zQ D (zTy cI cJ cZ) (some (.int u)) [] A) args s 0 0 A) [] [(0, .int v0), (1, .int v1), (2, .int v2), (3, .int v3), (4, .int v4), (5, .int v5), (6, .int v6)] 35 [] := by
  intro n
  induction n with
  | zero => intro v0 v1 v2 v3 v4 v5 v6 hF; exact absurd (show none = some u from hF) (fun q => nomatch q)
  | succ n ih =>
    intro v0 v1 v2 v3 v4 v5 v6 hF
    refine z_iload C dL_fit_35 6 rfl ?_
    refine z_iload_n C dL_fit_37 rfl 3 rfl ?_
    refine z_icmp_ge (tgt := 106) C dL_fit_38 (by decide) (fun c5 => ?_) (fun c5 => ?_)
    · have hF := zif hF c5
      refine z_iconst (v := 2) C dL_fit_106 (by decide) ?_
      refine z_iload_n C dL_fit_107 rfl 3 rfl ?_
      refine z_imul C dL_fit_108 ?_
      refine z_iconst (v := 1) C dL_fit_109 (by decide) ?_
      refine z_iadd C dL_fit_110 ?_
      refine z_iload_n C dL_fit_111 rfl 1 rfl ?_
      refine z_isub C dL_fit_112 ?_
      refine z_bipush (v := 64) C dL_fit_113 (by decide) ?_
      refine z_imul C dL_fit_115 ?_
      refine z_bipush (v := 63) C dL_fit_116 (by decide) ?_
      refine z_iadd C dL_fit_118 ?_
      refine z_iload C dL_fit_119 5 rfl ?_
      refine z_isub C dL_fit_121 ?_
      have hu := Option.some.inj hF
      subst hu
      exact z_iret C dL_fit_122 rfl rfl
    · have hF := zelse hF c5
      refine z_iload_n C dL_fit_41 rfl 0 rfl ?_
      refine z_iload C dL_fit_42 6 rfl ?_
      obtain ⟨r6, er6, hF⟩ := zbd hF
      refine z_callS (n := 1) (As := [.int v6]) C (c_L_ten l D cI cJ cZ v6 r6 er6) gL_fit_L_ten rfl rfl rfl (by decide +kernel) ⟨Nat.le_of_ble_eq_true rfl, Nat.le_of_ble_eq_true rfl⟩ ⟨Nat.zero_le _, Nat.zero_le _⟩ rfl rfl (Nat.le_of_ble_eq_true rfl) dL_fit_44 ?_
      obtain ⟨g7, hF⟩ := zne_some hF
      refine z_idiv C dL_fit_47 g7 ?_
      refine z_bipush (v := 10) C dL_fit_48 (by decide) ?_
      refine z_irem C dL_fit_50 (by decide) ?_
      refine z_istore (lv' := [(7, .int ((v0 / r6) - (v0 / r6) / 10 * 10)), (0, .int v0), (1, .int v1), (2, .int v2), (3, .int v3), (4, .int v4), (5, .int v5), (6, .int v6)]) C dL_fit_51 (by decide) rfl ?_
      refine z_iload C dL_fit_53 0 rfl ?_
      refine z_bipush (v := 9) C dL_fit_55 (by decide) ?_
      refine z_icmp_eq (tgt := 80) C dL_fit_57 (by decide) (fun c8 => ?_) (fun c8 => ?_)
      · have hF := zif hF c8
        refine z_iload C dL_fit_80 6 rfl ?_
        refine z_iload C dL_fit_82 0 rfl ?_
        refine z_bipush (v := 9) C dL_fit_84 (by decide) ?_
        refine z_icmp_ne (tgt := 96) C dL_fit_86 (by decide) (fun c9 => ?_) (fun c9 => ?_)
        · have hF := zelse hF c9
          refine z_iconst (v := 0) C dL_fit_96 (by decide) ?_
          refine z_iadd C dL_fit_97 ?_
          refine z_istore (lv' := [(5, .int (v5 + 0)), (7, .int ((v0 / r6) - (v0 / r6) / 10 * 10)), (0, .int v0), (1, .int v1), (2, .int v2), (3, .int v3), (4, .int v4), (6, .int v6)]) C dL_fit_98 (by decide) rfl ?_
          refine z_iinc (v := (v6 + 1)) (lv' := [(6, .int (v6 + 1)), (5, .int (v5 + 0)), (7, .int ((v0 / r6) - (v0 / r6) / 10 * 10)), (0, .int v0), (1, .int v1), (2, .int v2), (3, .int v3), (4, .int v4)]) C dL_fit_100 7 rfl rfl (by decide) rfl ?_
          refine z_goto (tgt := 35) C dL_fit_103 (by decide) ?_
          exact z_sub C [3, 4, 5, 6, 7, 1, 0] rfl (ih v0 v1 v2 v3 v4 (v5 + 0) (v6 + 1) hF)
        · have hF := zif hF c9
          refine z_iconst (v := 1) C dL_fit_89 (by decide) ?_
          refine z_iload C dL_fit_90 7 rfl ?_
          refine z_ishl C dL_fit_92 ?_
          refine z_goto (tgt := 97) C dL_fit_93 (by decide) ?_
          refine z_iadd C dL_fit_97 ?_
          refine z_istore (lv' := [(5, .int (v5 + (1 <<< (v6 &&& 31)))), (7, .int ((v0 / r6) - (v0 / r6) / 10 * 10)), (0, .int v0), (1, .int v1), (2, .int v2), (3, .int v3), (4, .int v4), (6, .int v6)]) C dL_fit_98 (by decide) rfl ?_
          refine z_iinc (v := (v6 + 1)) (lv' := [(6, .int (v6 + 1)), (5, .int (v5 + (1 <<< (v6 &&& 31)))), (7, .int ((v0 / r6) - (v0 / r6) / 10 * 10)), (0, .int v0), (1, .int v1), (2, .int v2), (3, .int v3), (4, .int v4)]) C dL_fit_100 7 rfl rfl (by decide) rfl ?_
          refine z_goto (tgt := 35) C dL_fit_103 (by decide) ?_
          exact z_sub C [3, 4, 5, 6, 7, 1, 0] rfl (ih v0 v1 v2 v3 v4 (v5 + (1 <<< (v6 &&& 31))) (v6 + 1) hF)
      · have hF := zelse hF c8
        refine z_iload C dL_fit_60 0 rfl ?_
        refine z_iload_n C dL_fit_62 rfl 3 rfl ?_
        refine z_iload C dL_fit_63 5 rfl ?_
        refine z_iload C dL_fit_65 7 rfl ?_
        refine z_iadd C dL_fit_67 ?_
        obtain ⟨r10, er10, hF⟩ := zbd hF
        refine z_callS (n := 1) (As := [.int (v4 + v6)]) C (c_L_ten l D cI cJ cZ (v4 + v6) r10 er10) gL_fit_L_ten rfl rfl rfl (by decide +kernel) ⟨Nat.le_of_ble_eq_true rfl, Nat.le_of_ble_eq_true rfl⟩ ⟨Nat.zero_le _, Nat.zero_le _⟩ rfl rfl (Nat.le_of_ble_eq_true rfl) dL_fit_68 ?_
        obtain ⟨g11, hF⟩ := zne_some hF
        refine z_idiv C dL_fit_71 g11 ?_
        refine z_bipush (v := 10) C dL_fit_72 (by decide) ?_
        refine z_irem C dL_fit_74 (by decide) ?_
        refine z_icmp_eq (tgt := 80) C dL_fit_75 (by decide) (fun c12 => ?_) (fun c12 => ?_)
        · have hF := zif hF c12
          refine z_iload C dL_fit_80 6 rfl ?_
          refine z_iload C dL_fit_82 0 rfl ?_
          refine z_bipush (v := 9) C dL_fit_84 (by decide) ?_
          refine z_icmp_ne (tgt := 96) C dL_fit_86 (by decide) (fun c13 => ?_) (fun c13 => ?_)
          · have hF := zelse hF c13
            refine z_iconst (v := 0) C dL_fit_96 (by decide) ?_
            refine z_iadd C dL_fit_97 ?_
            refine z_istore (lv' := [(5, .int (v5 + 0)), (7, .int ((v0 / r6) - (v0 / r6) / 10 * 10)), (0, .int v0), (1, .int v1), (2, .int v2), (3, .int v3), (4, .int v4), (6, .int v6)]) C dL_fit_98 (by decide) rfl ?_
            refine z_iinc (v := (v6 + 1)) (lv' := [(6, .int (v6 + 1)), (5, .int (v5 + 0)), (7, .int ((v0 / r6) - (v0 / r6) / 10 * 10)), (0, .int v0), (1, .int v1), (2, .int v2), (3, .int v3), (4, .int v4)]) C dL_fit_100 7 rfl rfl (by decide) rfl ?_
            refine z_goto (tgt := 35) C dL_fit_103 (by decide) ?_
            exact z_sub C [3, 4, 5, 6, 7, 1, 0] rfl (ih v0 v1 v2 v3 v4 (v5 + 0) (v6 + 1) hF)
          · have hF := zif hF c13
            refine z_iconst (v := 1) C dL_fit_89 (by decide) ?_
            refine z_iload C dL_fit_90 7 rfl ?_
            refine z_ishl C dL_fit_92 ?_
            refine z_goto (tgt := 97) C dL_fit_93 (by decide) ?_
            refine z_iadd C dL_fit_97 ?_
            refine z_istore (lv' := [(5, .int (v5 + (1 <<< (v6 &&& 31)))), (7, .int ((v0 / r6) - (v0 / r6) / 10 * 10)), (0, .int v0), (1, .int v1), (2, .int v2), (3, .int v3), (4, .int v4), (6, .int v6)]) C dL_fit_98 (by decide) rfl ?_
            refine z_iinc (v := (v6 + 1)) (lv' := [(6, .int (v6 + 1)), (5, .int (v5 + (1 <<< (v6 &&& 31)))), (7, .int ((v0 / r6) - (v0 / r6) / 10 * 10)), (0, .int v0), (1, .int v1), (2, .int v2), (3, .int v3), (4, .int v4)]) C dL_fit_100 7 rfl rfl (by decide) rfl ?_
            refine z_goto (tgt := 35) C dL_fit_103 (by decide) ?_
            exact z_sub C [3, 4, 5, 6, 7, 1, 0] rfl (ih v0 v1 v2 v3 v4 (v5 + (1 <<< (v6 &&& 31))) (v6 + 1) hF)
        · have hF := zelse hF c12
          refine z_iconst (v := 0) C dL_fit_78 (by decide) ?_
          have hu := Option.some.inj hF
          subst hu
          exact z_iret C dL_fit_79 rfl rfl
set_option maxHeartbeats 4000000 in
set_option maxRecDepth 100000 in
theorem c_L_fit (l : Launch) (D : va_G) (cI cJ cZ : ClassId) (x1 : Int32) (x2 : Int32) (x3 : Int32) (u : Int32) (hF : f_L_fit x1 x2 x3 = some u) : zM l yL_fit wsL_fit ({ frames := 2, cells := 0, slots := 0, locals := 43 }) D (zTy cI cJ cZ) [.int x1, .int x2, .int x3] [] (some (.int u)) [] := by
  refine z_body (cc := cL_fit) (maxL := 8) (rty := (some .int)) (own := RL) (lv := [(0, .int x1), (1, .int x2), (2, .int x3)]) (by decide +kernel) rfl rfl (Nat.le_of_ble_eq_true rfl) rfl (fun p e s m args below meth c A C => ?_)
  refine z_iload_n C dL_fit_0 rfl 0 rfl ?_
  obtain ⟨r1, er1, hF⟩ := zbd hF
  refine z_callS (n := 1) (As := [.int x1]) C (c_L_digits l D cI cJ cZ x1 r1 er1) gL_fit_L_digits rfl rfl rfl (by decide +kernel) ⟨Nat.le_of_ble_eq_true rfl, Nat.le_of_ble_eq_true rfl⟩ ⟨Nat.zero_le _, Nat.zero_le _⟩ rfl rfl (Nat.le_of_ble_eq_true rfl) dL_fit_1 ?_
  refine z_istore_n (lv' := [(3, .int r1), (0, .int x1), (1, .int x2), (2, .int x3)]) C dL_fit_4 rfl (by decide) rfl ?_
  refine z_iload_n C dL_fit_5 rfl 3 rfl ?_
  obtain ⟨r2, er2, hF⟩ := zbd hF
  refine z_callS (n := 1) (As := [.int x3]) C (c_L_digits l D cI cJ cZ x3 r2 er2) gL_fit_L_digits rfl rfl rfl (by decide +kernel) ⟨Nat.le_of_ble_eq_true rfl, Nat.le_of_ble_eq_true rfl⟩ ⟨Nat.zero_le _, Nat.zero_le _⟩ rfl rfl (Nat.le_of_ble_eq_true rfl) dL_fit_6 ?_
  refine z_iload_n C dL_fit_9 rfl 0 rfl ?_
  refine z_isub C dL_fit_10 ?_
  refine z_istore (lv' := [(4, .int (r2 - r1)), (3, .int r1), (0, .int x1), (1, .int x2), (2, .int x3)]) C dL_fit_11 (by decide) rfl ?_
  refine z_iload C dL_fit_13 0 rfl ?_
  refine z_if_lt (tgt := 27) C dL_fit_15 (by decide) (fun c3 => ?_) (fun c3 => ?_)
  · have hF := zif hF c3
    refine z_iconst (v := 0) C dL_fit_27 (by decide) ?_
    have hu := Option.some.inj hF
    subst hu
    exact z_iret C dL_fit_28 rfl rfl
  · have hF := zelse hF c3
    refine z_iload_n C dL_fit_18 rfl 3 rfl ?_
    refine z_if_ne (tgt := 29) C dL_fit_19 (by decide) (fun c4 => ?_) (fun c4 => ?_)
    · have hF := zelse hF c4
      refine z_iconst (v := 0) C dL_fit_29 (by decide) ?_
      refine z_istore (lv' := [(5, .int 0), (4, .int (r2 - r1)), (3, .int r1), (0, .int x1), (1, .int x2), (2, .int x3)]) C dL_fit_30 (by decide) rfl ?_
      refine z_iconst (v := 0) C dL_fit_32 (by decide) ?_
      refine z_istore (lv' := [(6, .int 0), (5, .int 0), (4, .int (r2 - r1)), (3, .int r1), (0, .int x1), (1, .int x2), (2, .int x3)]) C dL_fit_33 (by decide) rfl ?_
      exact z_sub C [4, 5, 6, 3, 2, 1, 0] rfl (c_L_fit_j35 l D cI cJ cZ u C 600 x1 x2 x3 r1 (r2 - r1) 0 0 hF)
    · have hF := zif hF c4
      refine z_iload C dL_fit_22 0 rfl ?_
      refine z_if_le (tgt := 29) C dL_fit_24 (by decide) (fun c14 => ?_) (fun c14 => ?_)
      · have hF := zif hF c14
        refine z_iconst (v := 0) C dL_fit_29 (by decide) ?_
        refine z_istore (lv' := [(5, .int 0), (4, .int (r2 - r1)), (3, .int r1), (0, .int x1), (1, .int x2), (2, .int x3)]) C dL_fit_30 (by decide) rfl ?_
        refine z_iconst (v := 0) C dL_fit_32 (by decide) ?_
        refine z_istore (lv' := [(6, .int 0), (5, .int 0), (4, .int (r2 - r1)), (3, .int r1), (0, .int x1), (1, .int x2), (2, .int x3)]) C dL_fit_33 (by decide) rfl ?_
        exact z_sub C [4, 5, 6, 3, 2, 1, 0] rfl (c_L_fit_j35 l D cI cJ cZ u C 600 x1 x2 x3 r1 (r2 - r1) 0 0 hF)
      · have hF := zelse hF c14
        refine z_iconst (v := 0) C dL_fit_27 (by decide) ?_
        have hu := Option.some.inj hF
        subst hu
        exact z_iret C dL_fit_28 rfl rfl
set_option maxHeartbeats 4000000 in
set_option maxRecDepth 100000 in
theorem c_L_can_j32 (l : Launch) (D : va_G) (cI cJ cZ : ClassId) (aw : Nat → Nat) (W : SS) (O : SL) (u : Int32) {p : Program} {e : Env} {s : State} {m : MethodId} {args : Array Value} {below : List Frame} {meth : Method} {c : Code} {A : Nat → Prop} (C : zC p s m args meth c cL_can 12 (some .int) RL wsL_can D (zTy cI cJ cZ) A s.heap) : ∀ (k13 : Int32 → Int32 → Int32 → Int32 → Option (Int32)) (hk13 : ∀ (v0 : Int32) (v1 : Int32) (v6 : Int32) (v7 : Int32), k13 v0 v1 v6 v7 = some u → zW p l e { frames := 3, cells := 0, slots := 0, locals := 70 } s m args below meth c 12 D A s.heap 0 0 (MQ below (zQ D (zTy cI cJ cZ) (some (.int u)) (zwW cI cJ cZ aw W O) A) args s 0 0 A) (zwW cI cJ cZ aw W O) [(0, .int v0), (1, .int v1), (2, .ref (aw 1)), (3, .ref (aw 3)), (4, .ref (aw 4)), (5, .ref (aw 5)), (6, .int v6), (7, .int v7)] 13 []), ∀ (n : Nat) (v0 : Int32) (v1 : Int32) (v6 : Int32) (v7 : Int32) (v8 : Int32) (v9 : Int32) (v10 : Int32), f_L_can_32 W k13 n v0 v1 v6 v7 v8 v9 v10 = some u → zW p l e { frames := 3, cells := 0, slots := 0, locals := 70 } s m args below meth c 12 D A s.heap 0 0 (MQ below (zQ D (zTy cI cJ cZ) (some (.int u)) (zwW cI cJ cZ aw W O) A) args s 0 0 A) (zwW cI cJ cZ aw W O) [(0, .int v0), (1, .int v1), (2, .ref (aw 1)), (3, .ref (aw 3)), (4, .ref (aw 4)), (5, .ref (aw 5)), (6, .int v6), (7, .int v7), (8, .int v8), (9, .int v9), (10, .int v10)] 32 [] := by
  intro k13 hk13
  intro n
  induction n with
  | zero => intro v0 v1 v6 v7 v8 v9 v10 hF; exact absurd (show none = some u from hF) (fun q => nomatch q)
  | succ n ih =>
    intro v0 v1 v6 v7 v8 v9 v10 hF
    refine z_iload C dL_can_32 10 rfl ?_
    refine z_bipush (v := 6) C dL_can_34 (by decide) ?_
    refine z_iload C dL_can_36 7 rfl ?_
    refine z_imul C dL_can_38 ?_
    refine z_aload C dL_can_39 5 rfl ?_
    refine z_iload C dL_can_41 7 rfl ?_
    obtain ⟨g4, hF⟩ := zix_some hF
    refine z_iald (v := ((W 5) v7.toNatClampNeg)) C g4 5 rfl rfl rfl dL_can_43 ?_
    refine z_iadd C dL_can_44 ?_
    refine z_icmp_ge (tgt := 109) C dL_can_45 (by decide) (fun c5 => ?_) (fun c5 => ?_)
    · have hF := zif hF c5
      refine z_iload C dL_can_109 6 rfl ?_
      refine z_aload_n C dL_can_111 rfl 2 rfl ?_
      refine z_iconst (v := 5) C dL_can_112 (by decide) ?_
      refine z_iload_n C dL_can_113 rfl 0 rfl ?_
      refine z_imul C dL_can_114 ?_
      refine z_iconst (v := 1) C dL_can_115 (by decide) ?_
      refine z_iadd C dL_can_116 ?_
      obtain ⟨g6, hF⟩ := zix_some hF
      refine z_iald (v := ((W 1) ((5 * v0) + 1).toNatClampNeg)) C g6 1 rfl rfl rfl dL_can_117 ?_
      refine z_iload C dL_can_118 7 rfl ?_
      refine z_ishr C dL_can_120 ?_
      refine z_iconst (v := 1) C dL_can_121 (by decide) ?_
      refine z_iand C dL_can_122 ?_
      refine z_if_ne (tgt := 130) C dL_can_123 (by decide) (fun c7 => ?_) (fun c7 => ?_)
      · have hF := zelse hF c7
        refine z_iload C dL_can_130 9 rfl ?_
        refine z_ior C dL_can_132 ?_
        refine z_istore (lv' := [(6, .int (v6 ||| v9)), (0, .int v0), (1, .int v1), (2, .ref (aw 1)), (3, .ref (aw 3)), (4, .ref (aw 4)), (5, .ref (aw 5)), (7, .int v7), (8, .int v8), (9, .int v9), (10, .int v10)]) C dL_can_133 (by decide) rfl ?_
        refine z_iinc (v := (v7 + 1)) (lv' := [(7, .int (v7 + 1)), (6, .int (v6 ||| v9)), (0, .int v0), (1, .int v1), (2, .ref (aw 1)), (3, .ref (aw 3)), (4, .ref (aw 4)), (5, .ref (aw 5)), (8, .int v8), (9, .int v9), (10, .int v10)]) C dL_can_135 7 rfl rfl (by decide) rfl ?_
        refine z_goto (tgt := 13) C dL_can_138 (by decide) ?_
        exact z_sub C [2, 3, 4, 5, 6, 7, 1, 0] rfl (hk13 v0 v1 (v6 ||| v9) (v7 + 1) hF)
      · have hF := zif hF c7
        refine z_iconst (v := 0) C dL_can_126 (by decide) ?_
        refine z_goto (tgt := 132) C dL_can_127 (by decide) ?_
        refine z_ior C dL_can_132 ?_
        refine z_istore (lv' := [(6, .int (v6 ||| 0)), (0, .int v0), (1, .int v1), (2, .ref (aw 1)), (3, .ref (aw 3)), (4, .ref (aw 4)), (5, .ref (aw 5)), (7, .int v7), (8, .int v8), (9, .int v9), (10, .int v10)]) C dL_can_133 (by decide) rfl ?_
        refine z_iinc (v := (v7 + 1)) (lv' := [(7, .int (v7 + 1)), (6, .int (v6 ||| 0)), (0, .int v0), (1, .int v1), (2, .ref (aw 1)), (3, .ref (aw 3)), (4, .ref (aw 4)), (5, .ref (aw 5)), (8, .int v8), (9, .int v9), (10, .int v10)]) C dL_can_135 7 rfl rfl (by decide) rfl ?_
        refine z_goto (tgt := 13) C dL_can_138 (by decide) ?_
        exact z_sub C [2, 3, 4, 5, 6, 7, 1, 0] rfl (hk13 v0 v1 (v6 ||| 0) (v7 + 1) hF)
    · have hF := zelse hF c5
      refine z_aload_n C dL_can_48 rfl 3 rfl ?_
      refine z_iload C dL_can_49 10 rfl ?_
      obtain ⟨g8, hF⟩ := zix_some hF
      refine z_iald (v := ((W 3) v10.toNatClampNeg)) C g8 3 rfl rfl rfl dL_can_51 ?_
      refine z_bipush (v := 10) C dL_can_52 (by decide) ?_
      refine z_idiv C dL_can_54 (by decide) ?_
      refine z_aload_n C dL_can_55 rfl 3 rfl ?_
      refine z_iload C dL_can_56 10 rfl ?_
      obtain ⟨g9, hF⟩ := zix_some hF
      refine z_iald (v := ((W 3) v10.toNatClampNeg)) C g9 3 rfl rfl rfl dL_can_58 ?_
      refine z_bipush (v := 10) C dL_can_59 (by decide) ?_
      refine z_irem C dL_can_61 (by decide) ?_
      refine z_iload_n C dL_can_62 rfl 1 rfl ?_
      obtain ⟨r10, er10, hF⟩ := zbd hF
      refine z_callS (n := 3) (As := [.int (((W 3) v10.toNatClampNeg) / 10), .int (((W 3) v10.toNatClampNeg) - ((W 3) v10.toNatClampNeg) / 10 * 10), .int v1]) C (c_L_fit l D cI cJ cZ (((W 3) v10.toNatClampNeg) / 10) (((W 3) v10.toNatClampNeg) - ((W 3) v10.toNatClampNeg) / 10 * 10) v1 r10 er10) gL_can_L_fit rfl rfl rfl (by decide +kernel) ⟨Nat.le_of_ble_eq_true rfl, Nat.le_of_ble_eq_true rfl⟩ ⟨Nat.zero_le _, Nat.zero_le _⟩ rfl rfl (Nat.le_of_ble_eq_true rfl) dL_can_63 ?_
      refine z_istore (lv' := [(11, .int r10), (0, .int v0), (1, .int v1), (2, .ref (aw 1)), (3, .ref (aw 3)), (4, .ref (aw 4)), (5, .ref (aw 5)), (6, .int v6), (7, .int v7), (8, .int v8), (9, .int v9), (10, .int v10)]) C dL_can_66 (by decide) rfl ?_
      refine z_iload C dL_can_68 0 rfl ?_
      refine z_iload C dL_can_70 9 rfl ?_
      refine z_icmp_le (tgt := 83) C dL_can_72 (by decide) (fun c11 => ?_) (fun c11 => ?_)
      · have hF := zif hF c11
        refine z_iload C dL_can_83 10 rfl ?_
        refine z_istore (lv' := [(9, .int v9), (11, .int r10), (0, .int v0), (1, .int v1), (2, .ref (aw 1)), (3, .ref (aw 3)), (4, .ref (aw 4)), (5, .ref (aw 5)), (6, .int v6), (7, .int v7), (8, .int v8), (10, .int v10)]) C dL_can_85 (by decide) rfl ?_
        refine z_iload C dL_can_87 1 rfl ?_
        refine z_iload C dL_can_89 10 rfl ?_
        refine z_icmp_le (tgt := 99) C dL_can_91 (by decide) (fun c12 => ?_) (fun c12 => ?_)
        · have hF := zif hF c12
          refine z_iload C dL_can_99 10 rfl ?_
          refine z_istore (lv' := [(8, .int v8), (9, .int v9), (11, .int r10), (0, .int v0), (1, .int v1), (2, .ref (aw 1)), (3, .ref (aw 3)), (4, .ref (aw 4)), (5, .ref (aw 5)), (6, .int v6), (7, .int v7), (10, .int v10)]) C dL_can_101 (by decide) rfl ?_
          refine z_iinc (v := (v10 + 1)) (lv' := [(10, .int (v10 + 1)), (8, .int v8), (9, .int v9), (11, .int r10), (0, .int v0), (1, .int v1), (2, .ref (aw 1)), (3, .ref (aw 3)), (4, .ref (aw 4)), (5, .ref (aw 5)), (6, .int v6), (7, .int v7)]) C dL_can_103 11 rfl rfl (by decide) rfl ?_
          refine z_goto (tgt := 32) C dL_can_106 (by decide) ?_
          exact z_sub C [4, 5, 6, 7, 8, 9, 10, 11, 1, 2, 0] rfl (ih v0 v1 v6 v7 v8 v9 (v10 + 1) hF)
        · have hF := zelse hF c12
          refine z_iload C dL_can_94 1 rfl ?_
          refine z_goto (tgt := 101) C dL_can_96 (by decide) ?_
          refine z_istore (lv' := [(8, .int r10), (9, .int v9), (11, .int r10), (0, .int v0), (1, .int v1), (2, .ref (aw 1)), (3, .ref (aw 3)), (4, .ref (aw 4)), (5, .ref (aw 5)), (6, .int v6), (7, .int v7), (10, .int v10)]) C dL_can_101 (by decide) rfl ?_
          refine z_iinc (v := (v10 + 1)) (lv' := [(10, .int (v10 + 1)), (8, .int r10), (9, .int v9), (11, .int r10), (0, .int v0), (1, .int v1), (2, .ref (aw 1)), (3, .ref (aw 3)), (4, .ref (aw 4)), (5, .ref (aw 5)), (6, .int v6), (7, .int v7)]) C dL_can_103 11 rfl rfl (by decide) rfl ?_
          refine z_goto (tgt := 32) C dL_can_106 (by decide) ?_
          exact z_sub C [4, 5, 6, 7, 8, 9, 10, 11, 1, 2, 0] rfl (ih v0 v1 v6 v7 r10 v9 (v10 + 1) hF)
      · have hF := zelse hF c11
        refine z_aload C dL_can_75 5 rfl ?_
        refine z_iload C dL_can_77 11 rfl ?_
        obtain ⟨g13, hF⟩ := zix_some hF
        refine z_iald (v := ((W 4) v10.toNatClampNeg)) C g13 4 rfl rfl rfl dL_can_79 ?_
        refine z_goto (tgt := 85) C dL_can_80 (by decide) ?_
        refine z_istore (lv' := [(9, .int ((W 4) v10.toNatClampNeg)), (11, .int r10), (0, .int v0), (1, .int v1), (2, .ref (aw 1)), (3, .ref (aw 3)), (4, .ref (aw 4)), (5, .ref (aw 5)), (6, .int v6), (7, .int v7), (8, .int v8), (10, .int v10)]) C dL_can_85 (by decide) rfl ?_
        refine z_iload C dL_can_87 1 rfl ?_
        refine z_iload C dL_can_89 10 rfl ?_
        refine z_icmp_le (tgt := 99) C dL_can_91 (by decide) (fun c14 => ?_) (fun c14 => ?_)
        · have hF := zif hF c14
          refine z_iload C dL_can_99 10 rfl ?_
          refine z_istore (lv' := [(8, .int v8), (9, .int ((W 4) v10.toNatClampNeg)), (11, .int r10), (0, .int v0), (1, .int v1), (2, .ref (aw 1)), (3, .ref (aw 3)), (4, .ref (aw 4)), (5, .ref (aw 5)), (6, .int v6), (7, .int v7), (10, .int v10)]) C dL_can_101 (by decide) rfl ?_
          refine z_iinc (v := (v10 + 1)) (lv' := [(10, .int (v10 + 1)), (8, .int v8), (9, .int ((W 4) v10.toNatClampNeg)), (11, .int r10), (0, .int v0), (1, .int v1), (2, .ref (aw 1)), (3, .ref (aw 3)), (4, .ref (aw 4)), (5, .ref (aw 5)), (6, .int v6), (7, .int v7)]) C dL_can_103 11 rfl rfl (by decide) rfl ?_
          refine z_goto (tgt := 32) C dL_can_106 (by decide) ?_
          exact z_sub C [4, 5, 6, 7, 8, 9, 10, 11, 1, 2, 0] rfl (ih v0 v1 v6 v7 v8 ((W 4) v10.toNatClampNeg) (v10 + 1) hF)
        · have hF := zelse hF c14
          refine z_iload C dL_can_94 1 rfl ?_
          refine z_goto (tgt := 101) C dL_can_96 (by decide) ?_
          refine z_istore (lv' := [(8, .int r10), (9, .int ((W 4) v10.toNatClampNeg)), (11, .int r10), (0, .int v0), (1, .int v1), (2, .ref (aw 1)), (3, .ref (aw 3)), (4, .ref (aw 4)), (5, .ref (aw 5)), (6, .int v6), (7, .int v7), (10, .int v10)]) C dL_can_101 (by decide) rfl ?_
          refine z_iinc (v := (v10 + 1)) (lv' := [(10, .int (v10 + 1)), (8, .int r10), (9, .int ((W 4) v10.toNatClampNeg)), (11, .int r10), (0, .int v0), (1, .int v1), (2, .ref (aw 1)), (3, .ref (aw 3)), (4, .ref (aw 4)), (5, .ref (aw 5)), (6, .int v6), (7, .int v7)]) C dL_can_103 11 rfl rfl (by decide) rfl ?_
          refine z_goto (tgt := 32) C dL_can_106 (by decide) ?_
          exact z_sub C [4, 5, 6, 7, 8, 9, 10, 11, 1, 2, 0] rfl (ih v0 v1 v6 v7 r10 ((W 4) v10.toNatClampNeg) (v10 + 1) hF)
set_option maxHeartbeats 4000000 in
set_option maxRecDepth 100000 in
theorem c_L_can_j13 (l : Launch) (D : va_G) (cI cJ cZ : ClassId) (aw : Nat → Nat) (W : SS) (O : SL) (u : Int32) {p : Program} {e : Env} {s : State} {m : MethodId} {args : Array Value} {below : List Frame} {meth : Method} {c : Code} {A : Nat → Prop} (C : zC p s m args meth c cL_can 12 (some .int) RL wsL_can D (zTy cI cJ cZ) A s.heap) : ∀ (n : Nat) (v0 : Int32) (v1 : Int32) (v6 : Int32) (v7 : Int32), f_L_can_13 W n v0 v1 v6 v7 = some u → zW p l e { frames := 3, cells := 0, slots := 0, locals := 70 } s m args below meth c 12 D A s.heap 0 0 (MQ below (zQ D (zTy cI cJ cZ) (some (.int u)) (zwW cI cJ cZ aw W O) A) args s 0 0 A) (zwW cI cJ cZ aw W O) [(0, .int v0), (1, .int v1), (2, .ref (aw 1)), (3, .ref (aw 3)), (4, .ref (aw 4)), (5, .ref (aw 5)), (6, .int v6), (7, .int v7)] 13 [] := by
  intro n
  induction n with
  | zero => intro v0 v1 v6 v7 hF; exact absurd (show none = some u from hF) (fun q => nomatch q)
  | succ n ih =>
    intro v0 v1 v6 v7 hF
    refine z_iload C dL_can_13 7 rfl ?_
    refine z_iconst (v := 3) C dL_can_15 (by decide) ?_
    refine z_icmp_ge (tgt := 141) C dL_can_16 (by decide) (fun c2 => ?_) (fun c2 => ?_)
    · have hF := zif hF c2
      refine z_iload C dL_can_141 6 rfl ?_
      refine z_bipush (v := 7) C dL_can_143 (by decide) ?_
      refine z_icmp_le (tgt := 152) C dL_can_145 (by decide) (fun c3 => ?_) (fun c3 => ?_)
      · have hF := zif hF c3
        refine z_iload C dL_can_152 6 rfl ?_
        have hu := Option.some.inj hF
        subst hu
        exact z_iret C dL_can_154 rfl rfl
      · have hF := zelse hF c3
        refine z_iconst (v := 0) C dL_can_148 (by decide) ?_
        refine z_goto (tgt := 154) C dL_can_149 (by decide) ?_
        have hu := Option.some.inj hF
        subst hu
        exact z_iret C dL_can_154 rfl rfl
    · have hF := zelse hF c2
      refine z_iconst (v := 0) C dL_can_19 (by decide) ?_
      refine z_istore (lv' := [(8, .int 0), (0, .int v0), (1, .int v1), (2, .ref (aw 1)), (3, .ref (aw 3)), (4, .ref (aw 4)), (5, .ref (aw 5)), (6, .int v6), (7, .int v7)]) C dL_can_20 (by decide) rfl ?_
      refine z_iconst (v := 0) C dL_can_22 (by decide) ?_
      refine z_istore (lv' := [(9, .int 0), (8, .int 0), (0, .int v0), (1, .int v1), (2, .ref (aw 1)), (3, .ref (aw 3)), (4, .ref (aw 4)), (5, .ref (aw 5)), (6, .int v6), (7, .int v7)]) C dL_can_23 (by decide) rfl ?_
      refine z_bipush (v := 6) C dL_can_25 (by decide) ?_
      refine z_iload C dL_can_27 9 rfl ?_
      refine z_imul C dL_can_29 ?_
      refine z_istore (lv' := [(10, .int (6 * v7)), (9, .int 0), (8, .int 0), (0, .int v0), (1, .int v1), (2, .ref (aw 1)), (3, .ref (aw 3)), (4, .ref (aw 4)), (5, .ref (aw 5)), (6, .int v6), (7, .int v7)]) C dL_can_30 (by decide) rfl ?_
      exact z_sub C [3, 4, 5, 6, 7, 8, 9, 10, 2, 1, 0] rfl (c_L_can_j32 l D cI cJ cZ aw W O u C (f_L_can_13 W n) (fun v0_ v1_ v6_ v7_ hF => ih v0_ v1_ v6_ v7_ hF) 600 v0 v1 v6 v7 0 0 (6 * v7) hF)
set_option maxHeartbeats 4000000 in
set_option maxRecDepth 100000 in
theorem c_L_can (l : Launch) (D : va_G) (cI cJ cZ : ClassId) (aw : Nat → Nat) (W : SS) (O : SL) (x1 : Int32) (x2 : Int32) (u : Int32) (hF : f_L_can W x1 x2 = some u) : zM l yL_can wsL_can ({ frames := 3, cells := 0, slots := 0, locals := 70 }) D (zTy cI cJ cZ) [.int x1, .int x2, .ref (aw 1), .ref (aw 3), .ref (aw 4), .ref (aw 5)] (zwW cI cJ cZ aw W O) (some (.int u)) (zwW cI cJ cZ aw W O) := by
  refine z_body (cc := cL_can) (maxL := 12) (rty := (some .int)) (own := RL) (lv := [(0, .int x1), (1, .int x2), (2, .ref (aw 1)), (3, .ref (aw 3)), (4, .ref (aw 4)), (5, .ref (aw 5))]) (by decide +kernel) rfl rfl (Nat.le_of_ble_eq_true rfl) rfl (fun p e s m args below meth c A C => ?_)
  refine z_iload_n C dL_can_0 rfl 0 rfl ?_
  refine z_if_ne (tgt := 7) C dL_can_1 (by decide) (fun c1 => ?_) (fun c1 => ?_)
  · have hF := zelse hF c1
    refine z_iconst (v := 0) C dL_can_7 (by decide) ?_
    refine z_istore (lv' := [(6, .int 0), (0, .int x1), (1, .int x2), (2, .ref (aw 1)), (3, .ref (aw 3)), (4, .ref (aw 4)), (5, .ref (aw 5))]) C dL_can_8 (by decide) rfl ?_
    refine z_iconst (v := 0) C dL_can_10 (by decide) ?_
    refine z_istore (lv' := [(7, .int 0), (6, .int 0), (0, .int x1), (1, .int x2), (2, .ref (aw 1)), (3, .ref (aw 3)), (4, .ref (aw 4)), (5, .ref (aw 5))]) C dL_can_11 (by decide) rfl ?_
    exact z_sub C [2, 3, 4, 5, 6, 7, 1, 0] rfl (c_L_can_j13 l D cI cJ cZ aw W O u C 600 x1 x2 0 0 hF)
  · have hF := zif hF c1
    refine z_bipush (v := 7) C dL_can_4 (by decide) ?_
    have hu := Option.some.inj hF
    subst hu
    exact z_iret C dL_can_6 rfl rfl
set_option maxHeartbeats 4000000 in
set_option maxRecDepth 100000 in
theorem c_L_lives_j2 (l : Launch) (D : va_G) (cI cJ cZ : ClassId) (aw : Nat → Nat) (W : SS) (O : SL) (u : Int32) {p : Program} {e : Env} {s : State} {m : MethodId} {args : Array Value} {below : List Frame} {meth : Method} {c : Code} {A : Nat → Prop} (C : zC p s m args meth c cL_lives 4 (some .boolean) RL wsL_lives D (zTy cI cJ cZ) A s.heap) : ∀ (n : Nat) (v3 : Int32), f_L_lives_2 W n v3 = some u → zW p l e { frames := 0, cells := 0, slots := 0, locals := 0 } s m args below meth c 4 D A s.heap 0 0 (MQ below (zQ D (zTy cI cJ cZ) (some (.int u)) (zwW cI cJ cZ aw W O) A) args s 0 0 A) (zwW cI cJ cZ aw W O) [(1, .ref (aw 0)), (2, .ref (aw 1)), (3, .int v3)] 2 [] := by
  intro n
  induction n with
  | zero => intro v3 hF; exact absurd (show none = some u from hF) (fun q => nomatch q)
  | succ n ih =>
    intro v3 hF
    refine z_iload_n C dL_lives_2 rfl 2 rfl ?_
    refine z_if_le (tgt := 38) C dL_lives_3 (by decide) (fun c1 => ?_) (fun c1 => ?_)
    · have hF := zif hF c1
      refine z_iload_n C dL_lives_38 rfl 2 rfl ?_
      refine z_if_gt (tgt := 46) C dL_lives_39 (by decide) (fun c2 => ?_) (fun c2 => ?_)
      · have hF := zif hF c2
        refine z_iconst (v := 0) C dL_lives_46 (by decide) ?_
        have hu := Option.some.inj hF
        subst hu
        exact z_iret C dL_lives_47 rfl z_b0
      · have hF := zelse hF c2
        refine z_iconst (v := 1) C dL_lives_42 (by decide) ?_
        refine z_goto (tgt := 47) C dL_lives_43 (by decide) ?_
        have hu := Option.some.inj hF
        subst hu
        exact z_iret C dL_lives_47 rfl z_b1
    · have hF := zelse hF c1
      refine z_aload_n C dL_lives_6 rfl 1 rfl ?_
      refine z_iconst (v := 5) C dL_lives_7 (by decide) ?_
      refine z_iload_n C dL_lives_8 rfl 2 rfl ?_
      refine z_imul C dL_lives_9 ?_
      refine z_iconst (v := 2) C dL_lives_10 (by decide) ?_
      refine z_iadd C dL_lives_11 ?_
      obtain ⟨g3, hF⟩ := zix_some hF
      refine z_iald (v := ((W 1) ((5 * v3) + 2).toNatClampNeg)) C g3 1 rfl rfl rfl dL_lives_12 ?_
      refine z_aload_n C dL_lives_13 rfl 0 rfl ?_
      refine z_iconst (v := 0) C dL_lives_14 (by decide) ?_
      obtain ⟨g4, hF⟩ := zix_some hF
      refine z_iald (v := ((W 0) (0 : Int32).toNatClampNeg)) C g4 0 rfl rfl rfl dL_lives_15 ?_
      refine z_icmp_le (tgt := 38) C dL_lives_16 (by decide) (fun c5 => ?_) (fun c5 => ?_)
      · have hF := zif hF c5
        refine z_iload_n C dL_lives_38 rfl 2 rfl ?_
        refine z_if_gt (tgt := 46) C dL_lives_39 (by decide) (fun c6 => ?_) (fun c6 => ?_)
        · have hF := zif hF c6
          refine z_iconst (v := 0) C dL_lives_46 (by decide) ?_
          have hu := Option.some.inj hF
          subst hu
          exact z_iret C dL_lives_47 rfl z_b0
        · have hF := zelse hF c6
          refine z_iconst (v := 1) C dL_lives_42 (by decide) ?_
          refine z_goto (tgt := 47) C dL_lives_43 (by decide) ?_
          have hu := Option.some.inj hF
          subst hu
          exact z_iret C dL_lives_47 rfl z_b1
      · have hF := zelse hF c5
        refine z_aload_n C dL_lives_19 rfl 1 rfl ?_
        refine z_iconst (v := 5) C dL_lives_20 (by decide) ?_
        refine z_iload_n C dL_lives_21 rfl 2 rfl ?_
        refine z_imul C dL_lives_22 ?_
        refine z_iconst (v := 3) C dL_lives_23 (by decide) ?_
        refine z_iadd C dL_lives_24 ?_
        obtain ⟨g7, hF⟩ := zix_some hF
        refine z_iald (v := ((W 1) ((5 * v3) + 3).toNatClampNeg)) C g7 1 rfl rfl rfl dL_lives_25 ?_
        refine z_if_lt (tgt := 38) C dL_lives_26 (by decide) (fun c8 => ?_) (fun c8 => ?_)
        · have hF := zif hF c8
          refine z_iload_n C dL_lives_38 rfl 2 rfl ?_
          refine z_if_gt (tgt := 46) C dL_lives_39 (by decide) (fun c9 => ?_) (fun c9 => ?_)
          · have hF := zif hF c9
            refine z_iconst (v := 0) C dL_lives_46 (by decide) ?_
            have hu := Option.some.inj hF
            subst hu
            exact z_iret C dL_lives_47 rfl z_b0
          · have hF := zelse hF c9
            refine z_iconst (v := 1) C dL_lives_42 (by decide) ?_
            refine z_goto (tgt := 47) C dL_lives_43 (by decide) ?_
            have hu := Option.some.inj hF
            subst hu
            exact z_iret C dL_lives_47 rfl z_b1
        · have hF := zelse hF c8
          refine z_aload_n C dL_lives_29 rfl 1 rfl ?_
          refine z_iconst (v := 5) C dL_lives_30 (by decide) ?_
          refine z_iload_n C dL_lives_31 rfl 2 rfl ?_
          refine z_imul C dL_lives_32 ?_
          obtain ⟨g10, hF⟩ := zix_some hF
          refine z_iald (v := ((W 1) (5 * v3).toNatClampNeg)) C g10 1 rfl rfl rfl dL_lives_33 ?_
          refine z_istore_n (lv' := [(3, .int ((W 1) (5 * v3).toNatClampNeg)), (1, .ref (aw 0)), (2, .ref (aw 1))]) C dL_lives_34 rfl (by decide) rfl ?_
          refine z_goto (tgt := 2) C dL_lives_35 (by decide) ?_
          exact z_sub C [1, 2, 0] rfl (ih ((W 1) (5 * v3).toNatClampNeg) hF)
set_option maxHeartbeats 4000000 in
set_option maxRecDepth 100000 in
theorem c_L_lives (l : Launch) (D : va_G) (cI cJ cZ : ClassId) (aw : Nat → Nat) (W : SS) (O : SL) (x1 : Int32) (u : Int32) (hF : f_L_lives W x1 = some u) : zM l yL_lives wsL_lives ({ frames := 0, cells := 0, slots := 0, locals := 0 }) D (zTy cI cJ cZ) [.int x1, .ref (aw 0), .ref (aw 1)] (zwW cI cJ cZ aw W O) (some (.int u)) (zwW cI cJ cZ aw W O) := by
  refine z_body (cc := cL_lives) (maxL := 4) (rty := (some .boolean)) (own := RL) (lv := [(0, .int x1), (1, .ref (aw 0)), (2, .ref (aw 1))]) (by decide +kernel) rfl rfl (Nat.le_of_ble_eq_true rfl) rfl (fun p e s m args below meth c A C => ?_)
  refine z_iload_n C dL_lives_0 rfl 0 rfl ?_
  refine z_istore_n (lv' := [(3, .int x1), (0, .int x1), (1, .ref (aw 0)), (2, .ref (aw 1))]) C dL_lives_1 rfl (by decide) rfl ?_
  exact z_sub C [2, 3, 0] rfl (c_L_lives_j2 l D cI cJ cZ aw W O u C 600 x1 hF)
set_option maxHeartbeats 4000000 in
set_option maxRecDepth 100000 in
theorem c_L_works (l : Launch) (D : va_G) (cI cJ cZ : ClassId) (aw : Nat → Nat) (W : SS) (O : SL) (x1 : Int32) (u : Int32) (hF : f_L_works W x1 = some u) : zM l yL_works wsL_works ({ frames := 1, cells := 0, slots := 0, locals := 23 }) D (zTy cI cJ cZ) [.int x1, .ref (aw 0), .ref (aw 1), .ref (aw 2)] (zwW cI cJ cZ aw W O) (some (.int u)) (zwW cI cJ cZ aw W O) := by
  refine z_body (cc := cL_works) (maxL := 4) (rty := (some .boolean)) (own := RL) (lv := [(0, .int x1), (1, .ref (aw 0)), (2, .ref (aw 1)), (3, .ref (aw 2))]) (by decide +kernel) rfl rfl (Nat.le_of_ble_eq_true rfl) rfl (fun p e s m args below meth c A C => ?_)
  refine z_aload_n C dL_works_0 rfl 3 rfl ?_
  refine z_iconst (v := 5) C dL_works_1 (by decide) ?_
  refine z_iload_n C dL_works_2 rfl 0 rfl ?_
  refine z_imul C dL_works_3 ?_
  refine z_iconst (v := 4) C dL_works_4 (by decide) ?_
  refine z_iadd C dL_works_5 ?_
  obtain ⟨g1, hF⟩ := zix_some hF
  refine z_iald (v := ((W 2) ((5 * x1) + 4).toNatClampNeg)) C g1 2 rfl rfl rfl dL_works_6 ?_
  refine z_if_ne (tgt := 40) C dL_works_7 (by decide) (fun c2 => ?_) (fun c2 => ?_)
  · have hF := zelse hF c2
    refine z_iconst (v := 0) C dL_works_40 (by decide) ?_
    have hu := Option.some.inj hF
    subst hu
    exact z_iret C dL_works_41 rfl z_b0
  · have hF := zif hF c2
    refine z_aload_n C dL_works_10 rfl 3 rfl ?_
    refine z_iconst (v := 5) C dL_works_11 (by decide) ?_
    refine z_iload_n C dL_works_12 rfl 0 rfl ?_
    refine z_imul C dL_works_13 ?_
    refine z_iconst (v := 2) C dL_works_14 (by decide) ?_
    refine z_iadd C dL_works_15 ?_
    obtain ⟨g3, hF⟩ := zix_some hF
    refine z_iald (v := ((W 2) ((5 * x1) + 2).toNatClampNeg)) C g3 2 rfl rfl rfl dL_works_16 ?_
    refine z_aload_n C dL_works_17 rfl 1 rfl ?_
    refine z_iconst (v := 0) C dL_works_18 (by decide) ?_
    obtain ⟨g4, hF⟩ := zix_some hF
    refine z_iald (v := ((W 0) (0 : Int32).toNatClampNeg)) C g4 0 rfl rfl rfl dL_works_19 ?_
    refine z_icmp_le (tgt := 40) C dL_works_20 (by decide) (fun c5 => ?_) (fun c5 => ?_)
    · have hF := zif hF c5
      refine z_iconst (v := 0) C dL_works_40 (by decide) ?_
      have hu := Option.some.inj hF
      subst hu
      exact z_iret C dL_works_41 rfl z_b0
    · have hF := zelse hF c5
      refine z_aload_n C dL_works_23 rfl 3 rfl ?_
      refine z_iconst (v := 5) C dL_works_24 (by decide) ?_
      refine z_iload_n C dL_works_25 rfl 0 rfl ?_
      refine z_imul C dL_works_26 ?_
      obtain ⟨g6, hF⟩ := zix_some hF
      refine z_iald (v := ((W 2) (5 * x1).toNatClampNeg)) C g6 2 rfl rfl rfl dL_works_27 ?_
      refine z_aload_n C dL_works_28 rfl 1 rfl ?_
      refine z_aload_n C dL_works_29 rfl 2 rfl ?_
      obtain ⟨r7, er7, hF⟩ := zbd hF
      refine z_callSW (n := 3) (As := [.int ((W 2) (5 * x1).toNatClampNeg), .ref (aw 0), .ref (aw 1)]) (ws' := (zwW cI cJ cZ aw W O)) C (c_L_lives l D cI cJ cZ aw W O ((W 2) (5 * x1).toNatClampNeg) r7 er7) gL_works_L_lives rfl rfl rfl (by decide +kernel) ⟨Nat.le_of_ble_eq_true rfl, Nat.le_of_ble_eq_true rfl⟩ ⟨Nat.zero_le _, Nat.zero_le _⟩ [] [] zAs7 zAs8 rfl rfl (Nat.le_of_ble_eq_true rfl) dL_works_30 ?_
      refine z_if_eq (tgt := 40) C dL_works_33 (by decide) (fun c8 => ?_) (fun c8 => ?_)
      · have hF := zif hF c8
        refine z_iconst (v := 0) C dL_works_40 (by decide) ?_
        have hu := Option.some.inj hF
        subst hu
        exact z_iret C dL_works_41 rfl z_b0
      · have hF := zelse hF c8
        refine z_iconst (v := 1) C dL_works_36 (by decide) ?_
        refine z_goto (tgt := 41) C dL_works_37 (by decide) ?_
        have hu := Option.some.inj hF
        subst hu
        exact z_iret C dL_works_41 rfl z_b1
set_option maxHeartbeats 4000000 in
set_option maxRecDepth 100000 in
theorem c_L_living_j4 (l : Launch) (D : va_G) (cI cJ cZ : ClassId) (aw : Nat → Nat) (W : SS) (O : SL) (u : Int32) {p : Program} {e : Env} {s : State} {m : MethodId} {args : Array Value} {below : List Frame} {meth : Method} {c : Code} {A : Nat → Prop} (C : zC p s m args meth c cL_living 4 (some .int) RL wsL_living D (zTy cI cJ cZ) A s.heap) : ∀ (n : Nat) (v2 : Int32) (v3 : Int32), f_L_living_4 W n v2 v3 = some u → zW p l e { frames := 1, cells := 0, slots := 0, locals := 23 } s m args below meth c 4 D A s.heap 0 0 (MQ below (zQ D (zTy cI cJ cZ) (some (.int u)) (zwW cI cJ cZ aw W O) A) args s 0 0 A) (zwW cI cJ cZ aw W O) [(0, .ref (aw 0)), (1, .ref (aw 1)), (2, .int v2), (3, .int v3)] 4 [] := by
  intro n
  induction n with
  | zero => intro v2 v3 hF; exact absurd (show none = some u from hF) (fun q => nomatch q)
  | succ n ih =>
    intro v2 v3 hF
    refine z_iload_n C dL_living_4 rfl 3 rfl ?_
    refine z_aload_n C dL_living_5 rfl 0 rfl ?_
    refine z_iconst (v := 3) C dL_living_6 (by decide) ?_
    obtain ⟨g1, hF⟩ := zix_some hF
    refine z_iald (v := ((W 0) (3 : Int32).toNatClampNeg)) C g1 0 rfl rfl rfl dL_living_7 ?_
    refine z_icmp_ge (tgt := 34) C dL_living_8 (by decide) (fun c2 => ?_) (fun c2 => ?_)
    · have hF := zif hF c2
      refine z_iload_n C dL_living_34 rfl 2 rfl ?_
      have hu := Option.some.inj hF
      subst hu
      exact z_iret C dL_living_35 rfl rfl
    · have hF := zelse hF c2
      refine z_iload_n C dL_living_11 rfl 2 rfl ?_
      refine z_iload_n C dL_living_12 rfl 3 rfl ?_
      refine z_aload_n C dL_living_13 rfl 0 rfl ?_
      refine z_aload_n C dL_living_14 rfl 1 rfl ?_
      obtain ⟨r3, er3, hF⟩ := zbd hF
      refine z_callSW (n := 3) (As := [.int v3, .ref (aw 0), .ref (aw 1)]) (ws' := (zwW cI cJ cZ aw W O)) C (c_L_lives l D cI cJ cZ aw W O v3 r3 er3) gL_living_L_lives rfl rfl rfl (by decide +kernel) ⟨Nat.le_of_ble_eq_true rfl, Nat.le_of_ble_eq_true rfl⟩ ⟨Nat.zero_le _, Nat.zero_le _⟩ [] [] zAs7 zAs8 rfl rfl (Nat.le_of_ble_eq_true rfl) dL_living_15 ?_
      refine z_if_eq (tgt := 25) C dL_living_18 (by decide) (fun c4 => ?_) (fun c4 => ?_)
      · have hF := zif hF c4
        refine z_iconst (v := 0) C dL_living_25 (by decide) ?_
        refine z_iadd C dL_living_26 ?_
        refine z_istore_n (lv' := [(2, .int (v2 + 0)), (0, .ref (aw 0)), (1, .ref (aw 1)), (3, .int v3)]) C dL_living_27 rfl (by decide) rfl ?_
        refine z_iinc (v := (v3 + 1)) (lv' := [(3, .int (v3 + 1)), (2, .int (v2 + 0)), (0, .ref (aw 0)), (1, .ref (aw 1))]) C dL_living_28 3 rfl rfl (by decide) rfl ?_
        refine z_goto (tgt := 4) C dL_living_31 (by decide) ?_
        exact z_sub C [2, 3, 1, 0] rfl (ih (v2 + 0) (v3 + 1) hF)
      · have hF := zelse hF c4
        refine z_iconst (v := 1) C dL_living_21 (by decide) ?_
        refine z_goto (tgt := 26) C dL_living_22 (by decide) ?_
        refine z_iadd C dL_living_26 ?_
        refine z_istore_n (lv' := [(2, .int (v2 + 1)), (0, .ref (aw 0)), (1, .ref (aw 1)), (3, .int v3)]) C dL_living_27 rfl (by decide) rfl ?_
        refine z_iinc (v := (v3 + 1)) (lv' := [(3, .int (v3 + 1)), (2, .int (v2 + 1)), (0, .ref (aw 0)), (1, .ref (aw 1))]) C dL_living_28 3 rfl rfl (by decide) rfl ?_
        refine z_goto (tgt := 4) C dL_living_31 (by decide) ?_
        exact z_sub C [2, 3, 1, 0] rfl (ih (v2 + 1) (v3 + 1) hF)
set_option maxHeartbeats 4000000 in
set_option maxRecDepth 100000 in
theorem c_L_living (l : Launch) (D : va_G) (cI cJ cZ : ClassId) (aw : Nat → Nat) (W : SS) (O : SL) (u : Int32) (hF : f_L_living W = some u) : zM l yL_living wsL_living ({ frames := 1, cells := 0, slots := 0, locals := 23 }) D (zTy cI cJ cZ) [.ref (aw 0), .ref (aw 1)] (zwW cI cJ cZ aw W O) (some (.int u)) (zwW cI cJ cZ aw W O) := by
  refine z_body (cc := cL_living) (maxL := 4) (rty := (some .int)) (own := RL) (lv := [(0, .ref (aw 0)), (1, .ref (aw 1))]) (by decide +kernel) rfl rfl (Nat.le_of_ble_eq_true rfl) rfl (fun p e s m args below meth c A C => ?_)
  refine z_iconst (v := 0) C dL_living_0 (by decide) ?_
  refine z_istore_n (lv' := [(2, .int 0), (0, .ref (aw 0)), (1, .ref (aw 1))]) C dL_living_1 rfl (by decide) rfl ?_
  refine z_iconst (v := 0) C dL_living_2 (by decide) ?_
  refine z_istore_n (lv' := [(3, .int 0), (2, .int 0), (0, .ref (aw 0)), (1, .ref (aw 1))]) C dL_living_3 rfl (by decide) rfl ?_
  exact z_sub C [2, 3, 1, 0] rfl (c_L_living_j4 l D cI cJ cZ aw W O u C 600 0 0 hF)
set_option maxHeartbeats 4000000 in
set_option maxRecDepth 100000 in
theorem c_L_working_j5 (l : Launch) (D : va_G) (cI cJ cZ : ClassId) (aw : Nat → Nat) (W : SS) (O : SL) (u : Int32) {p : Program} {e : Env} {s : State} {m : MethodId} {args : Array Value} {below : List Frame} {meth : Method} {c : Code} {A : Nat → Prop} (C : zC p s m args meth c cL_working 5 (some .int) RL wsL_working D (zTy cI cJ cZ) A s.heap) : ∀ (n : Nat) (v3 : Int32) (v4 : Int32), f_L_working_5 W n v3 v4 = some u → zW p l e { frames := 2, cells := 0, slots := 0, locals := 46 } s m args below meth c 5 D A s.heap 0 0 (MQ below (zQ D (zTy cI cJ cZ) (some (.int u)) (zwW cI cJ cZ aw W O) A) args s 0 0 A) (zwW cI cJ cZ aw W O) [(0, .ref (aw 0)), (1, .ref (aw 1)), (2, .ref (aw 2)), (3, .int v3), (4, .int v4)] 5 [] := by
  intro n
  induction n with
  | zero => intro v3 v4 hF; exact absurd (show none = some u from hF) (fun q => nomatch q)
  | succ n ih =>
    intro v3 v4 hF
    refine z_iload C dL_working_5 4 rfl ?_
    refine z_aload_n C dL_working_7 rfl 0 rfl ?_
    refine z_iconst (v := 4) C dL_working_8 (by decide) ?_
    obtain ⟨g1, hF⟩ := zix_some hF
    refine z_iald (v := ((W 0) (4 : Int32).toNatClampNeg)) C g1 0 rfl rfl rfl dL_working_9 ?_
    refine z_icmp_ge (tgt := 38) C dL_working_10 (by decide) (fun c2 => ?_) (fun c2 => ?_)
    · have hF := zif hF c2
      refine z_iload_n C dL_working_38 rfl 3 rfl ?_
      have hu := Option.some.inj hF
      subst hu
      exact z_iret C dL_working_39 rfl rfl
    · have hF := zelse hF c2
      refine z_iload_n C dL_working_13 rfl 3 rfl ?_
      refine z_iload C dL_working_14 4 rfl ?_
      refine z_aload_n C dL_working_16 rfl 0 rfl ?_
      refine z_aload_n C dL_working_17 rfl 1 rfl ?_
      refine z_aload_n C dL_working_18 rfl 2 rfl ?_
      obtain ⟨r3, er3, hF⟩ := zbd hF
      refine z_callSW (n := 4) (As := [.int v4, .ref (aw 0), .ref (aw 1), .ref (aw 2)]) (ws' := (zwW cI cJ cZ aw W O)) C (c_L_works l D cI cJ cZ aw W O v4 r3 er3) gL_working_L_works rfl rfl rfl (by decide +kernel) ⟨Nat.le_of_ble_eq_true rfl, Nat.le_of_ble_eq_true rfl⟩ ⟨Nat.zero_le _, Nat.zero_le _⟩ [] [] zAs7 zAs8 rfl rfl (Nat.le_of_ble_eq_true rfl) dL_working_19 ?_
      refine z_if_eq (tgt := 29) C dL_working_22 (by decide) (fun c4 => ?_) (fun c4 => ?_)
      · have hF := zif hF c4
        refine z_iconst (v := 0) C dL_working_29 (by decide) ?_
        refine z_iadd C dL_working_30 ?_
        refine z_istore_n (lv' := [(3, .int (v3 + 0)), (0, .ref (aw 0)), (1, .ref (aw 1)), (2, .ref (aw 2)), (4, .int v4)]) C dL_working_31 rfl (by decide) rfl ?_
        refine z_iinc (v := (v4 + 1)) (lv' := [(4, .int (v4 + 1)), (3, .int (v3 + 0)), (0, .ref (aw 0)), (1, .ref (aw 1)), (2, .ref (aw 2))]) C dL_working_32 4 rfl rfl (by decide) rfl ?_
        refine z_goto (tgt := 5) C dL_working_35 (by decide) ?_
        exact z_sub C [2, 3, 4, 1, 0] rfl (ih (v3 + 0) (v4 + 1) hF)
      · have hF := zelse hF c4
        refine z_iconst (v := 1) C dL_working_25 (by decide) ?_
        refine z_goto (tgt := 30) C dL_working_26 (by decide) ?_
        refine z_iadd C dL_working_30 ?_
        refine z_istore_n (lv' := [(3, .int (v3 + 1)), (0, .ref (aw 0)), (1, .ref (aw 1)), (2, .ref (aw 2)), (4, .int v4)]) C dL_working_31 rfl (by decide) rfl ?_
        refine z_iinc (v := (v4 + 1)) (lv' := [(4, .int (v4 + 1)), (3, .int (v3 + 1)), (0, .ref (aw 0)), (1, .ref (aw 1)), (2, .ref (aw 2))]) C dL_working_32 4 rfl rfl (by decide) rfl ?_
        refine z_goto (tgt := 5) C dL_working_35 (by decide) ?_
        exact z_sub C [2, 3, 4, 1, 0] rfl (ih (v3 + 1) (v4 + 1) hF)
set_option maxHeartbeats 4000000 in
set_option maxRecDepth 100000 in
theorem c_L_working (l : Launch) (D : va_G) (cI cJ cZ : ClassId) (aw : Nat → Nat) (W : SS) (O : SL) (u : Int32) (hF : f_L_working W = some u) : zM l yL_working wsL_working ({ frames := 2, cells := 0, slots := 0, locals := 46 }) D (zTy cI cJ cZ) [.ref (aw 0), .ref (aw 1), .ref (aw 2)] (zwW cI cJ cZ aw W O) (some (.int u)) (zwW cI cJ cZ aw W O) := by
  refine z_body (cc := cL_working) (maxL := 5) (rty := (some .int)) (own := RL) (lv := [(0, .ref (aw 0)), (1, .ref (aw 1)), (2, .ref (aw 2))]) (by decide +kernel) rfl rfl (Nat.le_of_ble_eq_true rfl) rfl (fun p e s m args below meth c A C => ?_)
  refine z_iconst (v := 0) C dL_working_0 (by decide) ?_
  refine z_istore_n (lv' := [(3, .int 0), (0, .ref (aw 0)), (1, .ref (aw 1)), (2, .ref (aw 2))]) C dL_working_1 rfl (by decide) rfl ?_
  refine z_iconst (v := 0) C dL_working_2 (by decide) ?_
  refine z_istore (lv' := [(4, .int 0), (3, .int 0), (0, .ref (aw 0)), (1, .ref (aw 1)), (2, .ref (aw 2))]) C dL_working_3 (by decide) rfl ?_
  exact z_sub C [2, 3, 4, 1, 0] rfl (c_L_working_j5 l D cI cJ cZ aw W O u C 600 0 0 hF)
