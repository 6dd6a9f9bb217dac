theorem hX2_firstEnd_X1 : ∀ w ∈ wsX10, w ∈ wsX2_firstEnd := by decide +kernel
set_option maxHeartbeats 4000000 in
set_option maxRecDepth 100000 in
theorem c_X2_firstEnd_1_j4 (l : Launch) (D : va_G) (cI cJ cZ : ClassId) (a1 : Nat → Nat) (K : SS) (u : Int32) {p : Program} {e : Env} {s : State} {m : MethodId} {args : Array Value} {below : List Frame} {meth : Method} {c : Code} {A : Nat → Prop} (C : zC p s m args meth c cX2_firstEnd 3 (some .int) RX2 wsX2_firstEnd D (zTy cI cJ cZ) A s.heap) : ∀ (n : Nat) (v1 : Int32) (v2 : Int32), f_X2_firstEnd_4 K n v1 v2 = some u → zW p l e { frames := 0, cells := 0, slots := 0, locals := 0 } s m args below meth c 3 D A s.heap 0 0 (MQ below (zQ D (zTy cI cJ cZ) (some (.int u)) (zwX1 cI cJ cZ a1 K) A) args s 0 0 A) (zwX1 cI cJ cZ a1 K) [(0, .ref (a1 0)), (1, .int v1), (2, .int v2)] 4 [] := by
  intro n
  induction n with
  | zero => intro v1 v2 hF; exact absurd (show none = some u from hF) (fun q => nomatch q)
  | succ n ih =>
    intro v1 v2 hF
    refine z_iload_n C dX2_firstEnd_4 rfl 2 rfl ?_
    refine z_aload_n C dX2_firstEnd_5 rfl 0 rfl ?_
    refine z_get (ref := "SecretBroker$Leased") (v := .int (K 4 0)) C hX2_firstEnd_X1 0 rfl rfl 4 (by decide) kX2_firstEnd_25 (fun _ h9 => h9) rfl dX2_firstEnd_6 ?_
    refine z_icmp_ge (tgt := 59) C dX2_firstEnd_9 (by decide) (fun c1 => ?_) (fun c1 => ?_)
    · have hF := zif hF c1
      refine z_iload_n C dX2_firstEnd_59 rfl 1 rfl ?_
      have hu := Option.some.inj hF
      subst hu
      exact z_iret C dX2_firstEnd_60 rfl rfl
    · have hF := zelse hF c1
      refine z_aload_n C dX2_firstEnd_12 rfl 0 rfl ?_
      refine z_get (ref := "SecretBroker$Leased") (v := .ref (a1 4)) C hX2_firstEnd_X1 0 rfl rfl 3 (by decide) kX2_firstEnd_21 (fun _ h9 => h9) rfl dX2_firstEnd_13 ?_
      refine z_iload_n C dX2_firstEnd_16 rfl 2 rfl ?_
      obtain ⟨g2, hF⟩ := zix_some hF
      refine z_zald (v := ((K 3) v2.toNatClampNeg)) C g2 4 rfl rfl rfl dX2_firstEnd_17 ?_
      refine z_if_eq (tgt := 53) C dX2_firstEnd_18 (by decide) (fun c3 => ?_) (fun c3 => ?_)
      · have hF := zif hF c3
        refine z_iinc (v := (v2 + 1)) (lv' := [(2, .int (v2 + 1)), (0, .ref (a1 0)), (1, .int v1)]) C dX2_firstEnd_53 2 rfl rfl (by decide) rfl ?_
        refine z_goto (tgt := 4) C dX2_firstEnd_56 (by decide) ?_
        exact z_sub C [1, 2, 0] rfl (ih v1 (v2 + 1) hF)
      · have hF := zelse hF c3
        refine z_aload_n C dX2_firstEnd_21 rfl 0 rfl ?_
        refine z_get (ref := "SecretBroker$Leased") (v := .ref (a1 2)) C hX2_firstEnd_X1 0 rfl rfl 1 (by decide) kX2_firstEnd_15 (fun _ h9 => h9) rfl dX2_firstEnd_22 ?_
        refine z_iload_n C dX2_firstEnd_25 rfl 2 rfl ?_
        obtain ⟨g4, hF⟩ := zix_some hF
        refine z_iald (v := ((K 1) v2.toNatClampNeg)) C g4 2 rfl rfl rfl dX2_firstEnd_26 ?_
        refine z_iconst (v := (-1)) C dX2_firstEnd_27 (by decide) ?_
        refine z_icmp_eq (tgt := 53) C dX2_firstEnd_28 (by decide) (fun c5 => ?_) (fun c5 => ?_)
        · have hF := zif hF c5
          refine z_iinc (v := (v2 + 1)) (lv' := [(2, .int (v2 + 1)), (0, .ref (a1 0)), (1, .int v1)]) C dX2_firstEnd_53 2 rfl rfl (by decide) rfl ?_
          refine z_goto (tgt := 4) C dX2_firstEnd_56 (by decide) ?_
          exact z_sub C [1, 2, 0] rfl (ih v1 (v2 + 1) hF)
        · have hF := zelse hF c5
          refine z_iload_n C dX2_firstEnd_31 rfl 1 rfl ?_
          refine z_iconst (v := (-1)) C dX2_firstEnd_32 (by decide) ?_
          refine z_icmp_eq (tgt := 46) C dX2_firstEnd_33 (by decide) (fun c6 => ?_) (fun c6 => ?_)
          · have hF := zif hF c6
            refine z_aload_n C dX2_firstEnd_46 rfl 0 rfl ?_
            refine z_get (ref := "SecretBroker$Leased") (v := .ref (a1 2)) C hX2_firstEnd_X1 0 rfl rfl 1 (by decide) kX2_firstEnd_15 (fun _ h9 => h9) rfl dX2_firstEnd_47 ?_
            refine z_iload_n C dX2_firstEnd_50 rfl 2 rfl ?_
            obtain ⟨g7, hF⟩ := zix_some hF
            refine z_iald (v := ((K 1) v2.toNatClampNeg)) C g7 2 rfl rfl rfl dX2_firstEnd_51 ?_
            refine z_istore_n (lv' := [(1, .int ((K 1) v2.toNatClampNeg)), (0, .ref (a1 0)), (2, .int v2)]) C dX2_firstEnd_52 rfl (by decide) rfl ?_
            refine z_iinc (v := (v2 + 1)) (lv' := [(2, .int (v2 + 1)), (1, .int ((K 1) v2.toNatClampNeg)), (0, .ref (a1 0))]) C dX2_firstEnd_53 2 rfl rfl (by decide) rfl ?_
            refine z_goto (tgt := 4) C dX2_firstEnd_56 (by decide) ?_
            exact z_sub C [2, 1, 0] rfl (ih ((K 1) v2.toNatClampNeg) (v2 + 1) hF)
          · have hF := zelse hF c6
            refine z_aload_n C dX2_firstEnd_36 rfl 0 rfl ?_
            refine z_get (ref := "SecretBroker$Leased") (v := .ref (a1 2)) C hX2_firstEnd_X1 0 rfl rfl 1 (by decide) kX2_firstEnd_15 (fun _ h9 => h9) rfl dX2_firstEnd_37 ?_
            refine z_iload_n C dX2_firstEnd_40 rfl 2 rfl ?_
            obtain ⟨g8, hF⟩ := zix_some hF
            refine z_iald (v := ((K 1) v2.toNatClampNeg)) C g8 2 rfl rfl rfl dX2_firstEnd_41 ?_
            refine z_iload_n C dX2_firstEnd_42 rfl 1 rfl ?_
            refine z_icmp_ge (tgt := 53) C dX2_firstEnd_43 (by decide) (fun c9 => ?_) (fun c9 => ?_)
            · have hF := zif hF c9
              refine z_iinc (v := (v2 + 1)) (lv' := [(2, .int (v2 + 1)), (0, .ref (a1 0)), (1, .int v1)]) C dX2_firstEnd_53 2 rfl rfl (by decide) rfl ?_
              refine z_goto (tgt := 4) C dX2_firstEnd_56 (by decide) ?_
              exact z_sub C [1, 2, 0] rfl (ih v1 (v2 + 1) hF)
            · have hF := zelse hF c9
              refine z_aload_n C dX2_firstEnd_46 rfl 0 rfl ?_
              refine z_get (ref := "SecretBroker$Leased") (v := .ref (a1 2)) C hX2_firstEnd_X1 0 rfl rfl 1 (by decide) kX2_firstEnd_15 (fun _ h9 => h9) rfl dX2_firstEnd_47 ?_
              refine z_iload_n C dX2_firstEnd_50 rfl 2 rfl ?_
              obtain ⟨g10, hF⟩ := zix_some hF
              refine z_iald (v := ((K 1) v2.toNatClampNeg)) C g10 2 rfl rfl rfl dX2_firstEnd_51 ?_
              refine z_istore_n (lv' := [(1, .int ((K 1) v2.toNatClampNeg)), (0, .ref (a1 0)), (2, .int v2)]) C dX2_firstEnd_52 rfl (by decide) rfl ?_
              refine z_iinc (v := (v2 + 1)) (lv' := [(2, .int (v2 + 1)), (1, .int ((K 1) v2.toNatClampNeg)), (0, .ref (a1 0))]) C dX2_firstEnd_53 2 rfl rfl (by decide) rfl ?_
              refine z_goto (tgt := 4) C dX2_firstEnd_56 (by decide) ?_
              exact z_sub C [2, 1, 0] rfl (ih ((K 1) v2.toNatClampNeg) (v2 + 1) hF)
set_option maxHeartbeats 4000000 in
set_option maxRecDepth 100000 in
theorem c_X2_firstEnd_1 (l : Launch) (D : va_G) (cI cJ cZ : ClassId) (a1 : Nat → Nat) (K : SS) (u : Int32) (hF : f_X2_firstEnd K = some u) : zM l yX2_firstEnd wsX2_firstEnd ({ frames := 0, cells := 0, slots := 0, locals := 0 }) D (zTy cI cJ cZ) [.ref (a1 0)] (zwX1 cI cJ cZ a1 K) (some (.int u)) (zwX1 cI cJ cZ a1 K) := by
  refine z_body (cc := cX2_firstEnd) (maxL := 3) (rty := (some .int)) (own := RX2) (lv := [(0, .ref (a1 0))]) (by decide +kernel) rfl rfl (Nat.le_of_ble_eq_true rfl) rfl (fun p e s m args below meth c A C => ?_)
  refine z_iconst (v := (-1)) C dX2_firstEnd_0 (by decide) ?_
  refine z_istore_n (lv' := [(1, .int (-1)), (0, .ref (a1 0))]) C dX2_firstEnd_1 rfl (by decide) rfl ?_
  refine z_iconst (v := 0) C dX2_firstEnd_2 (by decide) ?_
  refine z_istore_n (lv' := [(2, .int 0), (1, .int (-1)), (0, .ref (a1 0))]) C dX2_firstEnd_3 rfl (by decide) rfl ?_
  exact z_sub C [2, 1, 0] rfl (c_X2_firstEnd_1_j4 l D cI cJ cZ a1 K u C 600 (-1) 0 hF)
theorem kX3_count_21 : Cond.fieldLink RX3 21 "SecretBroker$Mounts" "count" "I" ∈ wsX3_count := by decide +kernel
theorem hX3_count_X3 : ∀ w ∈ wsX30, w ∈ wsX3_count := by decide +kernel
set_option maxHeartbeats 4000000 in
set_option maxRecDepth 100000 in
theorem c_X3_count (l : Launch) (D : va_G) (cI cJ cZ : ClassId) (a3 : Nat → Nat) (M : SS) (u : Int32) (hF : f_X3_count M = some u) : zM l yX3_count wsX3_count ({ frames := 0, cells := 0, slots := 0, locals := 0 }) D (zTy cI cJ cZ) [.ref (a3 0)] (zwX3 cI cJ cZ a3 M) (some (.int u)) (zwX3 cI cJ cZ a3 M) := by
  refine z_body (cc := cX3_count) (maxL := 1) (rty := (some .int)) (own := RX3) (lv := [(0, .ref (a3 0))]) (by decide +kernel) rfl rfl (Nat.le_of_ble_eq_true rfl) rfl (fun p e s m args below meth c A C => ?_)
  refine z_aload_n C dX3_count_0 rfl 0 rfl ?_
  refine z_get (ref := "SecretBroker$Mounts") (v := .int (M 3 0)) C hX3_count_X3 0 rfl rfl 3 (by decide) kX3_count_21 (fun _ h9 => h9) rfl dX3_count_1 ?_
  have hu := Option.some.inj hF
  subst hu
  exact z_iret C dX3_count_4 rfl rfl
theorem kX3_has_21 : Cond.fieldLink RX3 21 "SecretBroker$Mounts" "count" "I" ∈ wsX3_has := by decide +kernel
theorem hX3_has_X3 : ∀ w ∈ wsX30, w ∈ wsX3_has := by decide +kernel
set_option maxHeartbeats 4000000 in
set_option maxRecDepth 100000 in
theorem c_X3_has (l : Launch) (D : va_G) (cI cJ cZ : ClassId) (a3 : Nat → Nat) (M : SS) (x1 : Int32) (u : Int32) (hF : f_X3_has M x1 = some u) : zM l yX3_has wsX3_has ({ frames := 0, cells := 0, slots := 0, locals := 0 }) D (zTy cI cJ cZ) [.ref (a3 0), .int x1] (zwX3 cI cJ cZ a3 M) (some (.int u)) (zwX3 cI cJ cZ a3 M) := by
  refine z_body (cc := cX3_has) (maxL := 2) (rty := (some .boolean)) (own := RX3) (lv := [(0, .ref (a3 0)), (1, .int x1)]) (by decide +kernel) rfl rfl (Nat.le_of_ble_eq_true rfl) rfl (fun p e s m args below meth c A C => ?_)
  refine z_iload_n C dX3_has_0 rfl 1 rfl ?_
  refine z_if_lt (tgt := 16) C dX3_has_1 (by decide) (fun c1 => ?_) (fun c1 => ?_)
  · have hF := zif hF c1
    refine z_iconst (v := 0) C dX3_has_16 (by decide) ?_
    have hu := Option.some.inj hF
    subst hu
    exact z_iret C dX3_has_17 rfl z_b0
  · have hF := zelse hF c1
    refine z_iload_n C dX3_has_4 rfl 1 rfl ?_
    refine z_aload_n C dX3_has_5 rfl 0 rfl ?_
    refine z_get (ref := "SecretBroker$Mounts") (v := .int (M 3 0)) C hX3_has_X3 0 rfl rfl 3 (by decide) kX3_has_21 (fun _ h9 => h9) rfl dX3_has_6 ?_
    refine z_icmp_ge (tgt := 16) C dX3_has_9 (by decide) (fun c2 => ?_) (fun c2 => ?_)
    · have hF := zif hF c2
      refine z_iconst (v := 0) C dX3_has_16 (by decide) ?_
      have hu := Option.some.inj hF
      subst hu
      exact z_iret C dX3_has_17 rfl z_b0
    · have hF := zelse hF c2
      refine z_iconst (v := 1) C dX3_has_12 (by decide) ?_
      refine z_goto (tgt := 17) C dX3_has_13 (by decide) ?_
      have hu := Option.some.inj hF
      subst hu
      exact z_iret C dX3_has_17 rfl z_b1
theorem kX3_find_21 : Cond.fieldLink RX3 21 "SecretBroker$Mounts" "count" "I" ∈ wsX3_find := by decide +kernel
theorem kX3_find_9 : Cond.fieldLink RX3 9 "SecretBroker$Mounts" "paths" "[I" ∈ wsX3_find := by decide +kernel
theorem hX3_find_X3 : ∀ w ∈ wsX30, w ∈ wsX3_find := by decide +kernel
set_option maxHeartbeats 4000000 in
set_option maxRecDepth 100000 in
theorem c_X3_find_j2 (l : Launch) (D : va_G) (cI cJ cZ : ClassId) (a3 : Nat → Nat) (M : SS) (u : Int32) {p : Program} {e : Env} {s : State} {m : MethodId} {args : Array Value} {below : List Frame} {meth : Method} {c : Code} {A : Nat → Prop} (C : zC p s m args meth c cX3_find 3 (some .int) RX3 wsX3_find D (zTy cI cJ cZ) A s.heap) : ∀ (n : Nat) (v1 : Int32) (v2 : Int32), f_X3_find_2 M n v1 v2 = some u → zW p l e { frames := 0, cells := 0, slots := 0, locals := 0 } s m args below meth c 3 D A s.heap 0 0 (MQ below (zQ D (zTy cI cJ cZ) (some (.int u)) (zwX3 cI cJ cZ a3 M) A) args s 0 0 A) (zwX3 cI cJ cZ a3 M) [(0, .ref (a3 0)), (1, .int v1), (2, .int v2)] 2 [] := by
  intro n
  induction n with
  | zero => intro v1 v2 hF; exact absurd (show none = some u from hF) (fun q => nomatch q)
  | succ n ih =>
    intro v1 v2 hF
    refine z_iload_n C dX3_find_2 rfl 2 rfl ?_
    refine z_aload_n C dX3_find_3 rfl 0 rfl ?_
    refine z_get (ref := "SecretBroker$Mounts") (v := .int (M 3 0)) C hX3_find_X3 0 rfl rfl 3 (by decide) kX3_find_21 (fun _ h9 => h9) rfl dX3_find_4 ?_
    refine z_icmp_ge (tgt := 28) C dX3_find_7 (by decide) (fun c1 => ?_) (fun c1 => ?_)
    · have hF := zif hF c1
      refine z_iconst (v := (-1)) C dX3_find_28 (by decide) ?_
      have hu := Option.some.inj hF
      subst hu
      exact z_iret C dX3_find_29 rfl rfl
    · have hF := zelse hF c1
      refine z_aload_n C dX3_find_10 rfl 0 rfl ?_
      refine z_get (ref := "SecretBroker$Mounts") (v := .ref (a3 1)) C hX3_find_X3 0 rfl rfl 0 (by decide) kX3_find_9 (fun _ h9 => h9) rfl dX3_find_11 ?_
      refine z_iload_n C dX3_find_14 rfl 2 rfl ?_
      obtain ⟨g2, hF⟩ := zix_some hF
      refine z_iald (v := ((M 0) v2.toNatClampNeg)) C g2 1 rfl rfl rfl dX3_find_15 ?_
      refine z_iload_n C dX3_find_16 rfl 1 rfl ?_
      refine z_icmp_ne (tgt := 22) C dX3_find_17 (by decide) (fun c3 => ?_) (fun c3 => ?_)
      · have hF := zelse hF c3
        refine z_iinc (v := (v2 + 1)) (lv' := [(2, .int (v2 + 1)), (0, .ref (a3 0)), (1, .int v1)]) C dX3_find_22 2 rfl rfl (by decide) rfl ?_
        refine z_goto (tgt := 2) C dX3_find_25 (by decide) ?_
        exact z_sub C [1, 2, 0] rfl (ih v1 (v2 + 1) hF)
      · have hF := zif hF c3
        refine z_iload_n C dX3_find_20 rfl 2 rfl ?_
        have hu := Option.some.inj hF
        subst hu
        exact z_iret C dX3_find_21 rfl rfl
set_option maxHeartbeats 4000000 in
set_option maxRecDepth 100000 in
theorem c_X3_find (l : Launch) (D : va_G) (cI cJ cZ : ClassId) (a3 : Nat → Nat) (M : SS) (x1 : Int32) (u : Int32) (hF : f_X3_find M x1 = some u) : zM l yX3_find wsX3_find ({ frames := 0, cells := 0, slots := 0, locals := 0 }) D (zTy cI cJ cZ) [.ref (a3 0), .int x1] (zwX3 cI cJ cZ a3 M) (some (.int u)) (zwX3 cI cJ cZ a3 M) := by
  refine z_body (cc := cX3_find) (maxL := 3) (rty := (some .int)) (own := RX3) (lv := [(0, .ref (a3 0)), (1, .int x1)]) (by decide +kernel) rfl rfl (Nat.le_of_ble_eq_true rfl) rfl (fun p e s m args below meth c A C => ?_)
  refine z_iconst (v := 0) C dX3_find_0 (by decide) ?_
  refine z_istore_n (lv' := [(2, .int 0), (0, .ref (a3 0)), (1, .int x1)]) C dX3_find_1 rfl (by decide) rfl ?_
  exact z_sub C [1, 2, 0] rfl (c_X3_find_j2 l D cI cJ cZ a3 M u C 600 x1 0 hF)
theorem kX3_put_9 : Cond.fieldLink RX3 9 "SecretBroker$Mounts" "paths" "[I" ∈ wsX3_put := by decide +kernel
theorem kX3_put_15 : Cond.fieldLink RX3 15 "SecretBroker$Mounts" "minutes" "[I" ∈ wsX3_put := by decide +kernel
theorem kX3_put_18 : Cond.fieldLink RX3 18 "SecretBroker$Mounts" "bounds" "[I" ∈ wsX3_put := by decide +kernel
theorem kX3_put_21 : Cond.fieldLink RX3 21 "SecretBroker$Mounts" "count" "I" ∈ wsX3_put := by decide +kernel
theorem hX3_put_X3 : ∀ w ∈ wsX30, w ∈ wsX3_put := by decide +kernel
set_option maxHeartbeats 4000000 in
set_option maxRecDepth 100000 in
theorem c_X3_put_j38 (l : Launch) (D : va_G) (cI cJ cZ : ClassId) (a3 : Nat → Nat) (M : SS) (u : SS) {p : Program} {e : Env} {s : State} {m : MethodId} {args : Array Value} {below : List Frame} {meth : Method} {c : Code} {A : Nat → Prop} (C : zC p s m args meth c cX3_put 5 none RX3 wsX3_put D (zTy cI cJ cZ) A s.heap) : ∀ (Mc : SS) (v1 : Int32) (v2 : Int32) (v3 : Int32) (v4 : Int32), f_X3_put_38 Mc v1 v2 v3 v4 = some u → zW p l e { frames := 1, cells := 0, slots := 0, locals := 22 } s m args below meth c 5 D A s.heap 0 0 (MQ below (zQ D (zTy cI cJ cZ) none (zwX3 cI cJ cZ a3 u) A) args s 0 0 A) (zwX3 cI cJ cZ a3 Mc) [(0, .ref (a3 0)), (1, .int v1), (2, .int v2), (3, .int v3), (4, .int v4)] 38 [] := by
  intro Mc v1 v2 v3 v4 hF
  refine z_iload C dX3_put_38 4 rfl ?_
  refine z_iconst (v := (-1)) C dX3_put_40 (by decide) ?_
  refine z_icmp_eq (tgt := 68) C dX3_put_41 (by decide) (fun c3 => ?_) (fun c3 => ?_)
  · have hF := zif hF c3
    have hu := Option.some.inj hF
    subst hu
    exact z_vret C dX3_put_68 rfl
  · have hF := zelse hF c3
    refine z_aload_n C dX3_put_44 rfl 0 rfl ?_
    refine z_get (ref := "SecretBroker$Mounts") (v := .ref (a3 1)) C hX3_put_X3 0 rfl rfl 0 (by decide) kX3_put_9 (fun _ h9 => h9) rfl dX3_put_45 ?_
    refine z_iload C dX3_put_48 4 rfl ?_
    refine z_iload_n C dX3_put_50 rfl 1 rfl ?_
    obtain ⟨g4, hF⟩ := zix_some hF
    refine z_iast (ws' := (zwX3 cI cJ cZ a3 (za Mc 0 v4 v1))) C g4 1 rfl rfl dX3_put_51 (za_row Mc 0 v4 v1) (zr_X3_0 cI cJ cZ a3 Mc v4 v1) ?_
    refine z_aload_n C dX3_put_52 rfl 0 rfl ?_
    refine z_get (ref := "SecretBroker$Mounts") (v := .ref (a3 2)) C hX3_put_X3 0 rfl rfl 1 (by decide) kX3_put_15 (fun _ h9 => h9) rfl dX3_put_53 ?_
    refine z_iload C dX3_put_56 4 rfl ?_
    refine z_iload_n C dX3_put_58 rfl 2 rfl ?_
    obtain ⟨g5, hF⟩ := zix_some hF
    refine z_iast (ws' := (zwX3 cI cJ cZ a3 (za (za Mc 0 v4 v1) 1 v4 v2))) C g5 2 rfl rfl dX3_put_59 (za_row (za Mc 0 v4 v1) 1 v4 v2) (zr_X3_1 cI cJ cZ a3 (za Mc 0 v4 v1) v4 v2) ?_
    refine z_aload_n C dX3_put_60 rfl 0 rfl ?_
    refine z_get (ref := "SecretBroker$Mounts") (v := .ref (a3 3)) C hX3_put_X3 0 rfl rfl 2 (by decide) kX3_put_18 (fun _ h9 => h9) rfl dX3_put_61 ?_
    refine z_iload C dX3_put_64 4 rfl ?_
    refine z_iload_n C dX3_put_66 rfl 3 rfl ?_
    obtain ⟨g6, hF⟩ := zix_some hF
    refine z_iast (ws' := (zwX3 cI cJ cZ a3 (za (za (za Mc 0 v4 v1) 1 v4 v2) 2 v4 v3))) C g6 3 rfl rfl dX3_put_67 (za_row (za (za Mc 0 v4 v1) 1 v4 v2) 2 v4 v3) (zr_X3_2 cI cJ cZ a3 (za (za Mc 0 v4 v1) 1 v4 v2) v4 v3) ?_
    have hu := Option.some.inj hF
    subst hu
    exact z_vret C dX3_put_68 rfl
set_option maxHeartbeats 4000000 in
set_option maxRecDepth 100000 in
theorem c_X3_put (l : Launch) (D : va_G) (cI cJ cZ : ClassId) (a3 : Nat → Nat) (M : SS) (x1 : Int32) (x2 : Int32) (x3 : Int32) (u : SS) (hF : f_X3_put M x1 x2 x3 = some u) : zM l yX3_put wsX3_put ({ frames := 1, cells := 0, slots := 0, locals := 22 }) D (zTy cI cJ cZ) [.ref (a3 0), .int x1, .int x2, .int x3] (zwX3 cI cJ cZ a3 M) none (zwX3 cI cJ cZ a3 u) := by
  refine z_body (cc := cX3_put) (maxL := 5) (rty := none) (own := RX3) (lv := [(0, .ref (a3 0)), (1, .int x1), (2, .int x2), (3, .int x3)]) (by decide +kernel) rfl rfl (Nat.le_of_ble_eq_true rfl) rfl (fun p e s m args below meth c A C => ?_)
  refine z_aload_n C dX3_put_0 rfl 0 rfl ?_
  refine z_iload_n C dX3_put_1 rfl 1 rfl ?_
  obtain ⟨r1, er1, hF⟩ := zbd hF
  refine z_callV (n := 1) (As := [.int x1]) (ws' := (zwX3 cI cJ cZ a3 M)) C (c_X3_find l D cI cJ cZ a3 M x1 r1 er1) gX3_put_X3_find rfl rfl rfl (by decide +kernel) ⟨Nat.le_of_ble_eq_true rfl, Nat.le_of_ble_eq_true rfl⟩ ⟨Nat.zero_le _, Nat.zero_le _⟩ 0 rfl rfl [] [] rfl rfl rfl rfl (Nat.le_of_ble_eq_true rfl) dX3_put_2 ?_
  refine z_istore (lv' := [(4, .int r1), (0, .ref (a3 0)), (1, .int x1), (2, .int x2), (3, .int x3)]) C dX3_put_5 (by decide) rfl ?_
  refine z_iload C dX3_put_7 0 rfl ?_
  refine z_iconst (v := (-1)) C dX3_put_9 (by decide) ?_
  refine z_icmp_ne (tgt := 38) C dX3_put_10 (by decide) (fun c2 => ?_) (fun c2 => ?_)
  · have hF := zelse hF c2
    exact z_sub C [1, 2, 3, 4, 0] rfl (c_X3_put_j38 l D cI cJ cZ a3 M u C M x1 x2 x3 r1 hF)
  · have hF := zif hF c2
    refine z_aload_n C dX3_put_13 rfl 1 rfl ?_
    refine z_get (ref := "SecretBroker$Mounts") (v := .int (M 3 0)) C hX3_put_X3 0 rfl rfl 3 (by decide) kX3_put_21 (fun _ h9 => h9) rfl dX3_put_14 ?_
    refine z_bipush (v := 6) C dX3_put_17 (by decide) ?_
    refine z_icmp_ge (tgt := 38) C dX3_put_19 (by decide) (fun c7 => ?_) (fun c7 => ?_)
    · have hF := zif hF c7
      exact z_sub C [1, 2, 3, 4, 0] rfl (c_X3_put_j38 l D cI cJ cZ a3 M u C M x1 x2 x3 r1 hF)
    · have hF := zelse hF c7
      refine z_aload_n C dX3_put_22 rfl 1 rfl ?_
      refine z_get (ref := "SecretBroker$Mounts") (v := .int (M 3 0)) C hX3_put_X3 0 rfl rfl 3 (by decide) kX3_put_21 (fun _ h9 => h9) rfl dX3_put_23 ?_
      refine z_istore (lv' := [(4, .int (M 3 0)), (0, .ref (a3 0)), (1, .int x1), (2, .int x2), (3, .int x3)]) C dX3_put_26 (by decide) rfl ?_
      refine z_aload_n C dX3_put_28 rfl 1 rfl ?_
      refine z_dup C dX3_put_29 rfl ?_
      refine z_get (ref := "SecretBroker$Mounts") (v := .int (M 3 0)) C hX3_put_X3 0 rfl rfl 3 (by decide) kX3_put_21 (fun _ h9 => h9) rfl dX3_put_30 ?_
      refine z_iconst (v := 1) C dX3_put_33 (by decide) ?_
      refine z_iadd C dX3_put_34 ?_
      refine z_put (ws' := (zwX3 cI cJ cZ a3 (zs M 3 ((M 3 0) + 1)))) (ref := "SecretBroker$Mounts") (ty := .int) C hX3_put_X3 tyX3 tyX3_ok nmX3 0 rfl rfl 3 (by decide) kX3_put_21 (fun _ h9 => h9) rfl (by decide +kernel) rfl rfl (Nat.le_of_ble_eq_true rfl) dX3_put_35 (zs_val M 3 ((M 3 0) + 1)) (zf_X3_3 cI cJ cZ a3 M ((M 3 0) + 1)) ?_
      exact z_sub C [1, 2, 3, 4, 0] rfl (c_X3_put_j38 l D cI cJ cZ a3 M u C (zs M 3 ((M 3 0) + 1)) x1 x2 x3 (M 3 0) hF)
theorem kX3_nearest_21 : Cond.fieldLink RX3 21 "SecretBroker$Mounts" "count" "I" ∈ wsX3_nearest := by decide +kernel
theorem kX3_nearest_9 : Cond.fieldLink RX3 9 "SecretBroker$Mounts" "paths" "[I" ∈ wsX3_nearest := by decide +kernel
theorem hX3_nearest_X3 : ∀ w ∈ wsX30, w ∈ wsX3_nearest := by decide +kernel
set_option maxHeartbeats 4000000 in
set_option maxRecDepth 100000 in
theorem c_X3_nearest_j4 (l : Launch) (D : va_G) (cI cJ cZ : ClassId) (a3 : Nat → Nat) (M : SS) (u : Int32) {p : Program} {e : Env} {s : State} {m : MethodId} {args : Array Value} {below : List Frame} {meth : Method} {c : Code} {A : Nat → Prop} (C : zC p s m args meth c cX3_nearest 4 (some .int) RX3 wsX3_nearest D (zTy cI cJ cZ) A s.heap) : ∀ (n : Nat) (v1 : Int32) (v2 : Int32) (v3 : Int32), f_X3_nearest_4 M n v1 v2 v3 = some u → zW p l e { frames := 2, cells := 0, slots := 0, locals := 45 } s m args below meth c 4 D A s.heap 0 0 (MQ below (zQ D (zTy cI cJ cZ) (some (.int u)) (zwX3 cI cJ cZ a3 M) A) args s 0 0 A) (zwX3 cI cJ cZ a3 M) [(0, .ref (a3 0)), (1, .int v1), (2, .int v2), (3, .int v3)] 4 [] := by
  intro n
  induction n with
  | zero => intro v1 v2 v3 hF; exact absurd (show none = some u from hF) (fun q => nomatch q)
  | succ n ih =>
    intro v1 v2 v3 hF
    refine z_iload_n C dX3_nearest_4 rfl 3 rfl ?_
    refine z_aload_n C dX3_nearest_5 rfl 0 rfl ?_
    refine z_get (ref := "SecretBroker$Mounts") (v := .int (M 3 0)) C hX3_nearest_X3 0 rfl rfl 3 (by decide) kX3_nearest_21 (fun _ h9 => h9) rfl dX3_nearest_6 ?_
    refine z_icmp_ge (tgt := 53) C dX3_nearest_9 (by decide) (fun c1 => ?_) (fun c1 => ?_)
    · have hF := zif hF c1
      refine z_iload_n C dX3_nearest_53 rfl 2 rfl ?_
      have hu := Option.some.inj hF
      subst hu
      exact z_iret C dX3_nearest_54 rfl rfl
    · have hF := zelse hF c1
      refine z_iload_n C dX3_nearest_12 rfl 1 rfl ?_
      refine z_aload_n C dX3_nearest_13 rfl 0 rfl ?_
      refine z_get (ref := "SecretBroker$Mounts") (v := .ref (a3 1)) C hX3_nearest_X3 0 rfl rfl 0 (by decide) kX3_nearest_9 (fun _ h9 => h9) rfl dX3_nearest_14 ?_
      refine z_iload_n C dX3_nearest_17 rfl 3 rfl ?_
      obtain ⟨g2, hF⟩ := zix_some hF
      refine z_iald (v := ((M 0) v3.toNatClampNeg)) C g2 1 rfl rfl rfl dX3_nearest_18 ?_
      obtain ⟨r3, er3, hF⟩ := zbd hF
      refine z_callS (n := 2) (As := [.int v1, .int ((M 0) v3.toNatClampNeg)]) C (c_X4_isBelow l D cI cJ cZ v1 ((M 0) v3.toNatClampNeg) r3 er3) gX3_nearest_X4_isBelow rfl rfl rfl (by decide +kernel) ⟨Nat.le_of_ble_eq_true rfl, Nat.le_of_ble_eq_true rfl⟩ ⟨Nat.zero_le _, Nat.zero_le _⟩ rfl rfl (Nat.le_of_ble_eq_true rfl) dX3_nearest_19 ?_
      refine z_if_eq (tgt := 47) C dX3_nearest_22 (by decide) (fun c4 => ?_) (fun c4 => ?_)
      · have hF := zif hF c4
        refine z_iinc (v := (v3 + 1)) (lv' := [(3, .int (v3 + 1)), (0, .ref (a3 0)), (1, .int v1), (2, .int v2)]) C dX3_nearest_47 3 rfl rfl (by decide) rfl ?_
        refine z_goto (tgt := 4) C dX3_nearest_50 (by decide) ?_
        exact z_sub C [1, 2, 3, 0] rfl (ih v1 v2 (v3 + 1) hF)
      · have hF := zelse hF c4
        refine z_iload_n C dX3_nearest_25 rfl 2 rfl ?_
        refine z_iconst (v := (-1)) C dX3_nearest_26 (by decide) ?_
        refine z_icmp_eq (tgt := 45) C dX3_nearest_27 (by decide) (fun c5 => ?_) (fun c5 => ?_)
        · have hF := zif hF c5
          refine z_iload_n C dX3_nearest_45 rfl 3 rfl ?_
          refine z_istore_n (lv' := [(2, .int v3), (0, .ref (a3 0)), (1, .int v1), (3, .int v3)]) C dX3_nearest_46 rfl (by decide) rfl ?_
          refine z_iinc (v := (v3 + 1)) (lv' := [(3, .int (v3 + 1)), (2, .int v3), (0, .ref (a3 0)), (1, .int v1)]) C dX3_nearest_47 3 rfl rfl (by decide) rfl ?_
          refine z_goto (tgt := 4) C dX3_nearest_50 (by decide) ?_
          exact z_sub C [2, 3, 1, 0] rfl (ih v1 v3 (v3 + 1) hF)
        · have hF := zelse hF c5
          refine z_aload_n C dX3_nearest_30 rfl 0 rfl ?_
          refine z_get (ref := "SecretBroker$Mounts") (v := .ref (a3 1)) C hX3_nearest_X3 0 rfl rfl 0 (by decide) kX3_nearest_9 (fun _ h9 => h9) rfl dX3_nearest_31 ?_
          refine z_iload_n C dX3_nearest_34 rfl 3 rfl ?_
          obtain ⟨g6, hF⟩ := zix_some hF
          refine z_iald (v := ((M 0) v3.toNatClampNeg)) C g6 1 rfl rfl rfl dX3_nearest_35 ?_
          refine z_aload_n C dX3_nearest_36 rfl 0 rfl ?_
          refine z_get (ref := "SecretBroker$Mounts") (v := .ref (a3 1)) C hX3_nearest_X3 0 rfl rfl 0 (by decide) kX3_nearest_9 (fun _ h9 => h9) rfl dX3_nearest_37 ?_
          refine z_iload_n C dX3_nearest_40 rfl 2 rfl ?_
          obtain ⟨g7, hF⟩ := zix_some hF
          refine z_iald (v := ((M 0) v2.toNatClampNeg)) C g7 1 rfl rfl rfl dX3_nearest_41 ?_
          refine z_icmp_le (tgt := 47) C dX3_nearest_42 (by decide) (fun c8 => ?_) (fun c8 => ?_)
          · have hF := zif hF c8
            refine z_iinc (v := (v3 + 1)) (lv' := [(3, .int (v3 + 1)), (0, .ref (a3 0)), (1, .int v1), (2, .int v2)]) C dX3_nearest_47 3 rfl rfl (by decide) rfl ?_
            refine z_goto (tgt := 4) C dX3_nearest_50 (by decide) ?_
            exact z_sub C [1, 2, 3, 0] rfl (ih v1 v2 (v3 + 1) hF)
          · have hF := zelse hF c8
            refine z_iload_n C dX3_nearest_45 rfl 3 rfl ?_
            refine z_istore_n (lv' := [(2, .int v3), (0, .ref (a3 0)), (1, .int v1), (3, .int v3)]) C dX3_nearest_46 rfl (by decide) rfl ?_
            refine z_iinc (v := (v3 + 1)) (lv' := [(3, .int (v3 + 1)), (2, .int v3), (0, .ref (a3 0)), (1, .int v1)]) C dX3_nearest_47 3 rfl rfl (by decide) rfl ?_
            refine z_goto (tgt := 4) C dX3_nearest_50 (by decide) ?_
            exact z_sub C [2, 3, 1, 0] rfl (ih v1 v3 (v3 + 1) hF)
set_option maxHeartbeats 4000000 in
set_option maxRecDepth 100000 in
theorem c_X3_nearest (l : Launch) (D : va_G) (cI cJ cZ : ClassId) (a3 : Nat → Nat) (M : SS) (x1 : Int32) (u : Int32) (hF : f_X3_nearest M x1 = some u) : zM l yX3_nearest wsX3_nearest ({ frames := 2, cells := 0, slots := 0, locals := 45 }) D (zTy cI cJ cZ) [.ref (a3 0), .int x1] (zwX3 cI cJ cZ a3 M) (some (.int u)) (zwX3 cI cJ cZ a3 M) := by
  refine z_body (cc := cX3_nearest) (maxL := 4) (rty := (some .int)) (own := RX3) (lv := [(0, .ref (a3 0)), (1, .int x1)]) (by decide +kernel) rfl rfl (Nat.le_of_ble_eq_true rfl) rfl (fun p e s m args below meth c A C => ?_)
  refine z_iconst (v := (-1)) C dX3_nearest_0 (by decide) ?_
  refine z_istore_n (lv' := [(2, .int (-1)), (0, .ref (a3 0)), (1, .int x1)]) C dX3_nearest_1 rfl (by decide) rfl ?_
  refine z_iconst (v := 0) C dX3_nearest_2 (by decide) ?_
  refine z_istore_n (lv' := [(3, .int 0), (2, .int (-1)), (0, .ref (a3 0)), (1, .int x1)]) C dX3_nearest_3 rfl (by decide) rfl ?_
  exact z_sub C [2, 3, 1, 0] rfl (c_X3_nearest_j4 l D cI cJ cZ a3 M u C 600 x1 (-1) 0 hF)
theorem kX3_minutesAt_15 : Cond.fieldLink RX3 15 "SecretBroker$Mounts" "minutes" "[I" ∈ wsX3_minutesAt := by decide +kernel
theorem hX3_minutesAt_X3 : ∀ w ∈ wsX30, w ∈ wsX3_minutesAt := by decide +kernel
set_option maxHeartbeats 4000000 in
set_option maxRecDepth 100000 in
theorem c_X3_minutesAt (l : Launch) (D : va_G) (cI cJ cZ : ClassId) (a3 : Nat → Nat) (M : SS) (x1 : Int32) (u : Int32) (hF : f_X3_minutesAt M x1 = some u) : zM l yX3_minutesAt wsX3_minutesAt ({ frames := 1, cells := 0, slots := 0, locals := 21 }) D (zTy cI cJ cZ) [.ref (a3 0), .int x1] (zwX3 cI cJ cZ a3 M) (some (.int u)) (zwX3 cI cJ cZ a3 M) := by
  refine z_body (cc := cX3_minutesAt) (maxL := 2) (rty := (some .int)) (own := RX3) (lv := [(0, .ref (a3 0)), (1, .int x1)]) (by decide +kernel) rfl rfl (Nat.le_of_ble_eq_true rfl) rfl (fun p e s m args below meth c A C => ?_)
  refine z_aload_n C dX3_minutesAt_0 rfl 0 rfl ?_
  refine z_iload_n C dX3_minutesAt_1 rfl 1 rfl ?_
  obtain ⟨r1, er1, hF⟩ := zbd hF
  refine z_callV (n := 1) (As := [.int x1]) (ws' := (zwX3 cI cJ cZ a3 M)) C (c_X3_has l D cI cJ cZ a3 M x1 r1 er1) gX3_minutesAt_X3_has rfl rfl rfl (by decide +kernel) ⟨Nat.le_of_ble_eq_true rfl, Nat.le_of_ble_eq_true rfl⟩ ⟨Nat.zero_le _, Nat.zero_le _⟩ 0 rfl rfl [] [] rfl rfl rfl rfl (Nat.le_of_ble_eq_true rfl) dX3_minutesAt_2 ?_
  refine z_if_eq (tgt := 17) C dX3_minutesAt_5 (by decide) (fun c2 => ?_) (fun c2 => ?_)
  · have hF := zif hF c2
    refine z_iconst (v := 0) C dX3_minutesAt_17 (by decide) ?_
    have hu := Option.some.inj hF
    subst hu
    exact z_iret C dX3_minutesAt_18 rfl rfl
  · have hF := zelse hF c2
    refine z_aload_n C dX3_minutesAt_8 rfl 0 rfl ?_
    refine z_get (ref := "SecretBroker$Mounts") (v := .ref (a3 2)) C hX3_minutesAt_X3 0 rfl rfl 1 (by decide) kX3_minutesAt_15 (fun _ h9 => h9) rfl dX3_minutesAt_9 ?_
    refine z_iload_n C dX3_minutesAt_12 rfl 1 rfl ?_
    obtain ⟨g3, hF⟩ := zix_some hF
    refine z_iald (v := ((M 1) x1.toNatClampNeg)) C g3 2 rfl rfl rfl dX3_minutesAt_13 ?_
    refine z_goto (tgt := 18) C dX3_minutesAt_14 (by decide) ?_
    have hu := Option.some.inj hF
    subst hu
    exact z_iret C dX3_minutesAt_18 rfl rfl
theorem kX3_boundAt_18 : Cond.fieldLink RX3 18 "SecretBroker$Mounts" "bounds" "[I" ∈ wsX3_boundAt := by decide +kernel
theorem hX3_boundAt_X3 : ∀ w ∈ wsX30, w ∈ wsX3_boundAt := by decide +kernel
set_option maxHeartbeats 4000000 in
set_option maxRecDepth 100000 in
theorem c_X3_boundAt (l : Launch) (D : va_G) (cI cJ cZ : ClassId) (a3 : Nat → Nat) (M : SS) (x1 : Int32) (u : Int32) (hF : f_X3_boundAt M x1 = some u) : zM l yX3_boundAt wsX3_boundAt ({ frames := 1, cells := 0, slots := 0, locals := 21 }) D (zTy cI cJ cZ) [.ref (a3 0), .int x1] (zwX3 cI cJ cZ a3 M) (some (.int u)) (zwX3 cI cJ cZ a3 M) := by
  refine z_body (cc := cX3_boundAt) (maxL := 2) (rty := (some .int)) (own := RX3) (lv := [(0, .ref (a3 0)), (1, .int x1)]) (by decide +kernel) rfl rfl (Nat.le_of_ble_eq_true rfl) rfl (fun p e s m args below meth c A C => ?_)
  refine z_aload_n C dX3_boundAt_0 rfl 0 rfl ?_
  refine z_iload_n C dX3_boundAt_1 rfl 1 rfl ?_
  obtain ⟨r1, er1, hF⟩ := zbd hF
  refine z_callV (n := 1) (As := [.int x1]) (ws' := (zwX3 cI cJ cZ a3 M)) C (c_X3_has l D cI cJ cZ a3 M x1 r1 er1) gX3_boundAt_X3_has rfl rfl rfl (by decide +kernel) ⟨Nat.le_of_ble_eq_true rfl, Nat.le_of_ble_eq_true rfl⟩ ⟨Nat.zero_le _, Nat.zero_le _⟩ 0 rfl rfl [] [] rfl rfl rfl rfl (Nat.le_of_ble_eq_true rfl) dX3_boundAt_2 ?_
  refine z_if_eq (tgt := 17) C dX3_boundAt_5 (by decide) (fun c2 => ?_) (fun c2 => ?_)
  · have hF := zif hF c2
    refine z_iconst (v := 0) C dX3_boundAt_17 (by decide) ?_
    have hu := Option.some.inj hF
    subst hu
    exact z_iret C dX3_boundAt_18 rfl rfl
  · have hF := zelse hF c2
    refine z_aload_n C dX3_boundAt_8 rfl 0 rfl ?_
    refine z_get (ref := "SecretBroker$Mounts") (v := .ref (a3 3)) C hX3_boundAt_X3 0 rfl rfl 2 (by decide) kX3_boundAt_18 (fun _ h9 => h9) rfl dX3_boundAt_9 ?_
    refine z_iload_n C dX3_boundAt_12 rfl 1 rfl ?_
    obtain ⟨g3, hF⟩ := zix_some hF
    refine z_iald (v := ((M 2) x1.toNatClampNeg)) C g3 3 rfl rfl rfl dX3_boundAt_13 ?_
    refine z_goto (tgt := 18) C dX3_boundAt_14 (by decide) ?_
    have hu := Option.some.inj hF
    subst hu
    exact z_iret C dX3_boundAt_18 rfl rfl
theorem kX4_hasDigits_15 : Cond.constant RX4 15 (999999) ∈ wsX4_hasDigits := by decide +kernel
set_option maxHeartbeats 4000000 in
set_option maxRecDepth 100000 in
theorem c_X4_hasDigits_j17 (l : Launch) (D : va_G) (cI cJ cZ : ClassId) (u : Int32) {p : Program} {e : Env} {s : State} {m : MethodId} {args : Array Value} {below : List Frame} {meth : Method} {c : Code} {A : Nat → Prop} (C : zC p s m args meth c cX4_hasDigits 5 (some .boolean) RX4 wsX4_hasDigits D (zTy cI cJ cZ) A s.heap) : ∀ (n : Nat) (v1 : Int32) (v2 : Int32) (v3 : Int32), f_X4_hasDigits_17 n v1 v2 v3 = some u → zW p l e { frames := 0, cells := 0, slots := 0, locals := 0 } s m args below meth c 5 D A s.heap 0 0 (MQ below (zQ D (zTy cI cJ cZ) (some (.int u)) [] A) args s 0 0 A) [] [(1, .int v1), (2, .int v2), (3, .int v3)] 17 [] := by
  intro n
  induction n with
  | zero => intro v1 v2 v3 hF; exact absurd (show none = some u from hF) (fun q => nomatch q)
  | succ n ih =>
    intro v1 v2 v3 hF
    refine z_iload_n C dX4_hasDigits_17 rfl 2 rfl ?_
    refine z_bipush (v := 6) C dX4_hasDigits_18 (by decide) ?_
    refine z_icmp_ge (tgt := 58) C dX4_hasDigits_20 (by decide) (fun c3 => ?_) (fun c3 => ?_)
    · have hF := zif hF c3
      refine z_iconst (v := 1) C dX4_hasDigits_58 (by decide) ?_
      have hu := Option.some.inj hF
      subst hu
      exact z_iret C dX4_hasDigits_59 rfl z_b1
    · have hF := zelse hF c3
      refine z_iload_n C dX4_hasDigits_23 rfl 1 rfl ?_
      refine z_if_le (tgt := 58) C dX4_hasDigits_24 (by decide) (fun c4 => ?_) (fun c4 => ?_)
      · have hF := zif hF c4
        refine z_iconst (v := 1) C dX4_hasDigits_58 (by decide) ?_
        have hu := Option.some.inj hF
        subst hu
        exact z_iret C dX4_hasDigits_59 rfl z_b1
      · have hF := zelse hF c4
        refine z_iload_n C dX4_hasDigits_27 rfl 1 rfl ?_
        refine z_bipush (v := 10) C dX4_hasDigits_28 (by decide) ?_
        refine z_irem C dX4_hasDigits_30 (by decide) ?_
        refine z_istore (lv' := [(4, .int (v2 - v2 / 10 * 10)), (1, .int v1), (2, .int v2), (3, .int v3)]) C dX4_hasDigits_31 (by decide) rfl ?_
        refine z_iload C dX4_hasDigits_33 0 rfl ?_
        refine z_iconst (v := 1) C dX4_hasDigits_35 (by decide) ?_
        refine z_icmp_lt (tgt := 45) C dX4_hasDigits_36 (by decide) (fun c5 => ?_) (fun c5 => ?_)
        · have hF := zif hF c5
          refine z_iconst (v := 0) C dX4_hasDigits_45 (by decide) ?_
          have hu := Option.some.inj hF
          subst hu
          exact z_iret C dX4_hasDigits_46 rfl z_b0
        · have hF := zelse hF c5
          refine z_iload C dX4_hasDigits_39 0 rfl ?_
          refine z_iload_n C dX4_hasDigits_41 rfl 1 rfl ?_
          refine z_icmp_le (tgt := 47) C dX4_hasDigits_42 (by decide) (fun c6 => ?_) (fun c6 => ?_)
          · have hF := zif hF c6
            refine z_iload_n C dX4_hasDigits_47 rfl 2 rfl ?_
            refine z_bipush (v := 10) C dX4_hasDigits_48 (by decide) ?_
            refine z_idiv C dX4_hasDigits_50 (by decide) ?_
            refine z_istore_n (lv' := [(2, .int (v2 / 10)), (4, .int (v2 - v2 / 10 * 10)), (1, .int v1), (3, .int v3)]) C dX4_hasDigits_51 rfl (by decide) rfl ?_
            refine z_iinc (v := (v3 + 1)) (lv' := [(3, .int (v3 + 1)), (2, .int (v2 / 10)), (4, .int (v2 - v2 / 10 * 10)), (1, .int v1)]) C dX4_hasDigits_52 3 rfl rfl (by decide) rfl ?_
            refine z_goto (tgt := 17) C dX4_hasDigits_55 (by decide) ?_
            exact z_sub C [3, 1, 0] rfl (ih v1 (v2 / 10) (v3 + 1) hF)
          · have hF := zelse hF c6
            refine z_iconst (v := 0) C dX4_hasDigits_45 (by decide) ?_
            have hu := Option.some.inj hF
            subst hu
            exact z_iret C dX4_hasDigits_46 rfl z_b0
set_option maxHeartbeats 4000000 in
set_option maxRecDepth 100000 in
theorem c_X4_hasDigits (l : Launch) (D : va_G) (cI cJ cZ : ClassId) (x1 : Int32) (x2 : Int32) (u : Int32) (hF : f_X4_hasDigits x1 x2 = some u) : zM l yX4_hasDigits wsX4_hasDigits ({ frames := 0, cells := 0, slots := 0, locals := 0 }) D (zTy cI cJ cZ) [.int x1, .int x2] [] (some (.int u)) [] := by
  refine z_body (cc := cX4_hasDigits) (maxL := 5) (rty := (some .boolean)) (own := RX4) (lv := [(0, .int x1), (1, .int x2)]) (by decide +kernel) rfl rfl (Nat.le_of_ble_eq_true rfl) rfl (fun p e s m args below meth c A C => ?_)
  refine z_iload_n C dX4_hasDigits_0 rfl 0 rfl ?_
  refine z_iconst (v := 1) C dX4_hasDigits_1 (by decide) ?_
  refine z_icmp_lt (tgt := 11) C dX4_hasDigits_2 (by decide) (fun c1 => ?_) (fun c1 => ?_)
  · have hF := zif hF c1
    refine z_iconst (v := 0) C dX4_hasDigits_11 (by decide) ?_
    have hu := Option.some.inj hF
    subst hu
    exact z_iret C dX4_hasDigits_12 rfl z_b0
  · have hF := zelse hF c1
    refine z_iload_n C dX4_hasDigits_5 rfl 0 rfl ?_
    refine z_ldc (v := 999999) C kX4_hasDigits_15 dX4_hasDigits_6 ?_
    refine z_icmp_le (tgt := 13) C dX4_hasDigits_8 (by decide) (fun c2 => ?_) (fun c2 => ?_)
    · have hF := zif hF c2
      refine z_iload_n C dX4_hasDigits_13 rfl 0 rfl ?_
      refine z_istore_n (lv' := [(2, .int x1), (0, .int x1), (1, .int x2)]) C dX4_hasDigits_14 rfl (by decide) rfl ?_
      refine z_iconst (v := 0) C dX4_hasDigits_15 (by decide) ?_
      refine z_istore_n (lv' := [(3, .int 0), (2, .int x1), (0, .int x1), (1, .int x2)]) C dX4_hasDigits_16 rfl (by decide) rfl ?_
      exact z_sub C [3, 1, 0] rfl (c_X4_hasDigits_j17 l D cI cJ cZ u C 600 x2 x1 0 hF)
    · have hF := zelse hF c2
      refine z_iconst (v := 0) C dX4_hasDigits_11 (by decide) ?_
      have hu := Option.some.inj hF
      subst hu
      exact z_iret C dX4_hasDigits_12 rfl z_b0
set_option maxHeartbeats 4000000 in
set_option maxRecDepth 100000 in
theorem c_X4_isPath (l : Launch) (D : va_G) (cI cJ cZ : ClassId) (x1 : Int32) (u : Int32) (hF : f_X4_isPath x1 = some u) : zM l yX4_isPath wsX4_isPath ({ frames := 1, cells := 0, slots := 0, locals := 24 }) D (zTy cI cJ cZ) [.int x1] [] (some (.int u)) [] := by
  refine z_body (cc := cX4_isPath) (maxL := 1) (rty := (some .boolean)) (own := RX4) (lv := [(0, .int x1)]) (by decide +kernel) rfl rfl (Nat.le_of_ble_eq_true rfl) rfl (fun p e s m args below meth c A C => ?_)
  refine z_iload_n C dX4_isPath_0 rfl 0 rfl ?_
  refine z_bipush (v := 8) C dX4_isPath_1 (by decide) ?_
  obtain ⟨r1, er1, hF⟩ := zbd hF
  refine z_callS (n := 2) (As := [.int x1, .int 8]) C (c_X4_hasDigits l D cI cJ cZ x1 8 r1 er1) gX4_isPath_X4_hasDigits rfl rfl rfl (by decide +kernel) ⟨Nat.le_of_ble_eq_true rfl, Nat.le_of_ble_eq_true rfl⟩ ⟨Nat.zero_le _, Nat.zero_le _⟩ rfl rfl (Nat.le_of_ble_eq_true rfl) dX4_isPath_3 ?_
  obtain ⟨g2, hF⟩ := zbo_some hF
  have hu := Option.some.inj hF
  subst hu
  exact z_iret C dX4_isPath_6 rfl g2
set_option maxHeartbeats 4000000 in
set_option maxRecDepth 100000 in
theorem c_X4_isPattern (l : Launch) (D : va_G) (cI cJ cZ : ClassId) (x1 : Int32) (u : Int32) (hF : f_X4_isPattern x1 = some u) : zM l yX4_isPattern wsX4_isPattern ({ frames := 1, cells := 0, slots := 0, locals := 24 }) D (zTy cI cJ cZ) [.int x1] [] (some (.int u)) [] := by
  refine z_body (cc := cX4_isPattern) (maxL := 1) (rty := (some .boolean)) (own := RX4) (lv := [(0, .int x1)]) (by decide +kernel) rfl rfl (Nat.le_of_ble_eq_true rfl) rfl (fun p e s m args below meth c A C => ?_)
  refine z_iload_n C dX4_isPattern_0 rfl 0 rfl ?_
  refine z_bipush (v := 9) C dX4_isPattern_1 (by decide) ?_
  obtain ⟨r1, er1, hF⟩ := zbd hF
  refine z_callS (n := 2) (As := [.int x1, .int 9]) C (c_X4_hasDigits l D cI cJ cZ x1 9 r1 er1) gX4_isPattern_X4_hasDigits rfl rfl rfl (by decide +kernel) ⟨Nat.le_of_ble_eq_true rfl, Nat.le_of_ble_eq_true rfl⟩ ⟨Nat.zero_le _, Nat.zero_le _⟩ rfl rfl (Nat.le_of_ble_eq_true rfl) dX4_isPattern_3 ?_
  obtain ⟨g2, hF⟩ := zbo_some hF
  have hu := Option.some.inj hF
  subst hu
  exact z_iret C dX4_isPattern_6 rfl g2
set_option maxHeartbeats 4000000 in
set_option maxRecDepth 100000 in
theorem c_X4_fits_j37 (l : Launch) (D : va_G) (cI cJ cZ : ClassId) (u : Int32) {p : Program} {e : Env} {s : State} {m : MethodId} {args : Array Value} {below : List Frame} {meth : Method} {c : Code} {A : Nat → Prop} (C : zC p s m args meth c cX4_fits 8 (some .boolean) RX4 wsX4_fits D (zTy cI cJ cZ) A s.heap) : ∀ (n : Nat) (v4 : Int32) (v5 : Int32) (v6 : Int32), f_X4_fits_37 n v4 v5 v6 = some u → zW p l e { frames := 1, cells := 0, slots := 0, locals := 23 } s m args below meth c 8 D A s.heap 0 0 (MQ below (zQ D (zTy cI cJ cZ) (some (.int u)) [] A) args s 0 0 A) [] [(4, .int v4), (5, .int v5), (6, .int v6)] 37 [] := by
  intro n
  induction n with
  | zero => intro v4 v5 v6 hF; exact absurd (show none = some u from hF) (fun q => nomatch q)
  | succ n ih =>
    intro v4 v5 v6 hF
    refine z_iload C dX4_fits_37 2 rfl ?_
    refine z_bipush (v := 6) C dX4_fits_39 (by decide) ?_
    refine z_icmp_ge (tgt := 95) C dX4_fits_41 (by decide) (fun c6 => ?_) (fun c6 => ?_)
    · have hF := zif hF c6
      refine z_iconst (v := 1) C dX4_fits_95 (by decide) ?_
      have hu := Option.some.inj hF
      subst hu
      exact z_iret C dX4_fits_96 rfl z_b1
    · have hF := zelse hF c6
      refine z_iload C dX4_fits_44 0 rfl ?_
      refine z_if_le (tgt := 95) C dX4_fits_46 (by decide) (fun c7 => ?_) (fun c7 => ?_)
      · have hF := zif hF c7
        refine z_iconst (v := 1) C dX4_fits_95 (by decide) ?_
        have hu := Option.some.inj hF
        subst hu
        exact z_iret C dX4_fits_96 rfl z_b1
      · have hF := zelse hF c7
        refine z_iload C dX4_fits_49 0 rfl ?_
        refine z_bipush (v := 10) C dX4_fits_51 (by decide) ?_
        refine z_irem C dX4_fits_53 (by decide) ?_
        refine z_istore (lv' := [(7, .int (v4 - v4 / 10 * 10)), (4, .int v4), (5, .int v5), (6, .int v6)]) C dX4_fits_54 (by decide) rfl ?_
        refine z_iload C dX4_fits_56 0 rfl ?_
        refine z_bipush (v := 9) C dX4_fits_58 (by decide) ?_
        refine z_icmp_eq (tgt := 75) C dX4_fits_60 (by decide) (fun c8 => ?_) (fun c8 => ?_)
        · have hF := zif hF c8
          refine z_iload C dX4_fits_75 1 rfl ?_
          refine z_bipush (v := 10) C dX4_fits_77 (by decide) ?_
          refine z_idiv C dX4_fits_79 (by decide) ?_
          refine z_istore (lv' := [(4, .int (v4 / 10)), (7, .int (v4 - v4 / 10 * 10)), (5, .int v5), (6, .int v6)]) C dX4_fits_80 (by decide) rfl ?_
          refine z_iload C dX4_fits_82 2 rfl ?_
          refine z_bipush (v := 10) C dX4_fits_84 (by decide) ?_
          refine z_idiv C dX4_fits_86 (by decide) ?_
          refine z_istore (lv' := [(5, .int (v5 / 10)), (4, .int (v4 / 10)), (7, .int (v4 - v4 / 10 * 10)), (6, .int v6)]) C dX4_fits_87 (by decide) rfl ?_
          refine z_iinc (v := (v6 + 1)) (lv' := [(6, .int (v6 + 1)), (5, .int (v5 / 10)), (4, .int (v4 / 10)), (7, .int (v4 - v4 / 10 * 10))]) C dX4_fits_89 3 rfl rfl (by decide) rfl ?_
          refine z_goto (tgt := 37) C dX4_fits_92 (by decide) ?_
          exact z_sub C [2, 1, 0] rfl (ih (v4 / 10) (v5 / 10) (v6 + 1) hF)
        · have hF := zelse hF c8
          refine z_iload C dX4_fits_63 0 rfl ?_
          refine z_iload C dX4_fits_65 2 rfl ?_
          refine z_bipush (v := 10) C dX4_fits_67 (by decide) ?_
          refine z_irem C dX4_fits_69 (by decide) ?_
          refine z_icmp_eq (tgt := 75) C dX4_fits_70 (by decide) (fun c9 => ?_) (fun c9 => ?_)
          · have hF := zif hF c9
            refine z_iload C dX4_fits_75 1 rfl ?_
            refine z_bipush (v := 10) C dX4_fits_77 (by decide) ?_
            refine z_idiv C dX4_fits_79 (by decide) ?_
            refine z_istore (lv' := [(4, .int (v4 / 10)), (7, .int (v4 - v4 / 10 * 10)), (5, .int v5), (6, .int v6)]) C dX4_fits_80 (by decide) rfl ?_
            refine z_iload C dX4_fits_82 2 rfl ?_
            refine z_bipush (v := 10) C dX4_fits_84 (by decide) ?_
            refine z_idiv C dX4_fits_86 (by decide) ?_
            refine z_istore (lv' := [(5, .int (v5 / 10)), (4, .int (v4 / 10)), (7, .int (v4 - v4 / 10 * 10)), (6, .int v6)]) C dX4_fits_87 (by decide) rfl ?_
            refine z_iinc (v := (v6 + 1)) (lv' := [(6, .int (v6 + 1)), (5, .int (v5 / 10)), (4, .int (v4 / 10)), (7, .int (v4 - v4 / 10 * 10))]) C dX4_fits_89 3 rfl rfl (by decide) rfl ?_
            refine z_goto (tgt := 37) C dX4_fits_92 (by decide) ?_
            exact z_sub C [2, 1, 0] rfl (ih (v4 / 10) (v5 / 10) (v6 + 1) hF)
          · have hF := zelse hF c9
            refine z_iconst (v := 0) C dX4_fits_73 (by decide) ?_
            have hu := Option.some.inj hF
            subst hu
            exact z_iret C dX4_fits_74 rfl z_b0
set_option maxHeartbeats 4000000 in
set_option maxRecDepth 100000 in
theorem c_X4_fits (l : Launch) (D : va_G) (cI cJ cZ : ClassId) (x1 : Int32) (x2 : Int32) (x3 : Int32) (u : Int32) (hF : f_X4_fits x1 x2 x3 = some u) : zM l yX4_fits wsX4_fits ({ frames := 1, cells := 0, slots := 0, locals := 23 }) D (zTy cI cJ cZ) [.int x1, .int x2, .int x3] [] (some (.int u)) [] := by
  refine z_body (cc := cX4_fits) (maxL := 8) (rty := (some .boolean)) (own := RX4) (lv := [(0, .int x1), (1, .int x2), (2, .int x3)]) (by decide +kernel) rfl rfl (Nat.le_of_ble_eq_true rfl) rfl (fun p e s m args below meth c A C => ?_)
  refine z_iload_n C dX4_fits_0 rfl 2 rfl ?_
  obtain ⟨r1, er1, hF⟩ := zbd hF
  refine z_callS (n := 1) (As := [.int x3]) C (c_X4_length l D cI cJ cZ x3 r1 er1) gX4_fits_X4_length rfl rfl rfl (by decide +kernel) ⟨Nat.le_of_ble_eq_true rfl, Nat.le_of_ble_eq_true rfl⟩ ⟨Nat.zero_le _, Nat.zero_le _⟩ rfl rfl (Nat.le_of_ble_eq_true rfl) dX4_fits_1 ?_
  refine z_iload_n C dX4_fits_4 rfl 0 rfl ?_
  obtain ⟨r2, er2, hF⟩ := zbd hF
  refine z_callS (n := 1) (As := [.int x1]) C (c_X4_length l D cI cJ cZ x1 r2 er2) gX4_fits_X4_length rfl rfl rfl (by decide +kernel) ⟨Nat.le_of_ble_eq_true rfl, Nat.le_of_ble_eq_true rfl⟩ ⟨Nat.zero_le _, Nat.zero_le _⟩ rfl rfl (Nat.le_of_ble_eq_true rfl) dX4_fits_5 ?_
  refine z_isub C dX4_fits_8 ?_
  refine z_istore_n (lv' := [(3, .int (r1 - r2)), (0, .int x1), (1, .int x2), (2, .int x3)]) C dX4_fits_9 rfl (by decide) rfl ?_
  refine z_iload_n C dX4_fits_10 rfl 0 rfl ?_
  refine z_if_lt (tgt := 22) C dX4_fits_11 (by decide) (fun c3 => ?_) (fun c3 => ?_)
  · have hF := zif hF c3
    refine z_iconst (v := 0) C dX4_fits_22 (by decide) ?_
    have hu := Option.some.inj hF
    subst hu
    exact z_iret C dX4_fits_23 rfl z_b0
  · have hF := zelse hF c3
    refine z_iload_n C dX4_fits_14 rfl 0 rfl ?_
    refine z_if_le (tgt := 24) C dX4_fits_15 (by decide) (fun c4 => ?_) (fun c4 => ?_)
    · have hF := zif hF c4
      refine z_iload_n C dX4_fits_24 rfl 1 rfl ?_
      refine z_istore (lv' := [(4, .int x1), (3, .int (r1 - r2)), (0, .int x1), (1, .int x2), (2, .int x3)]) C dX4_fits_25 (by decide) rfl ?_
      refine z_iload_n C dX4_fits_27 rfl 4 rfl ?_
      refine z_iload_n C dX4_fits_28 rfl 1 rfl ?_
      obtain ⟨r5, er5, hF⟩ := zbd hF
      refine z_callS (n := 2) (As := [.int x3, .int (r1 - r2)]) C (c_X4_withoutLast l D cI cJ cZ x3 (r1 - r2) r5 er5) gX4_fits_X4_withoutLast rfl rfl rfl (by decide +kernel) ⟨Nat.le_of_ble_eq_true rfl, Nat.le_of_ble_eq_true rfl⟩ ⟨Nat.zero_le _, Nat.zero_le _⟩ rfl rfl (Nat.le_of_ble_eq_true rfl) dX4_fits_29 ?_
      refine z_istore (lv' := [(5, .int r5), (4, .int x1), (3, .int (r1 - r2)), (0, .int x1), (1, .int x2), (2, .int x3)]) C dX4_fits_32 (by decide) rfl ?_
      refine z_iconst (v := 0) C dX4_fits_34 (by decide) ?_
      refine z_istore (lv' := [(6, .int 0), (5, .int r5), (4, .int x1), (3, .int (r1 - r2)), (0, .int x1), (1, .int x2), (2, .int x3)]) C dX4_fits_35 (by decide) rfl ?_
      exact z_sub C [2, 1, 0] rfl (c_X4_fits_j37 l D cI cJ cZ u C 600 x1 r5 0 hF)
    · have hF := zelse hF c4
      refine z_iload_n C dX4_fits_18 rfl 2 rfl ?_
      refine z_if_ne (tgt := 24) C dX4_fits_19 (by decide) (fun c10 => ?_) (fun c10 => ?_)
      · have hF := zelse hF c10
        refine z_iload_n C dX4_fits_24 rfl 1 rfl ?_
        refine z_istore (lv' := [(4, .int x1), (3, .int (r1 - r2)), (0, .int x1), (1, .int x2), (2, .int x3)]) C dX4_fits_25 (by decide) rfl ?_
        refine z_iload_n C dX4_fits_27 rfl 4 rfl ?_
        refine z_iload_n C dX4_fits_28 rfl 1 rfl ?_
        obtain ⟨r11, er11, hF⟩ := zbd hF
        refine z_callS (n := 2) (As := [.int x3, .int (r1 - r2)]) C (c_X4_withoutLast l D cI cJ cZ x3 (r1 - r2) r11 er11) gX4_fits_X4_withoutLast rfl rfl rfl (by decide +kernel) ⟨Nat.le_of_ble_eq_true rfl, Nat.le_of_ble_eq_true rfl⟩ ⟨Nat.zero_le _, Nat.zero_le _⟩ rfl rfl (Nat.le_of_ble_eq_true rfl) dX4_fits_29 ?_
        refine z_istore (lv' := [(5, .int r11), (4, .int x1), (3, .int (r1 - r2)), (0, .int x1), (1, .int x2), (2, .int x3)]) C dX4_fits_32 (by decide) rfl ?_
        refine z_iconst (v := 0) C dX4_fits_34 (by decide) ?_
        refine z_istore (lv' := [(6, .int 0), (5, .int r11), (4, .int x1), (3, .int (r1 - r2)), (0, .int x1), (1, .int x2), (2, .int x3)]) C dX4_fits_35 (by decide) rfl ?_
        exact z_sub C [2, 1, 0] rfl (c_X4_fits_j37 l D cI cJ cZ u C 600 x1 r11 0 hF)
      · have hF := zif hF c10
        refine z_iconst (v := 0) C dX4_fits_22 (by decide) ?_
        have hu := Option.some.inj hF
        subst hu
        exact z_iret C dX4_fits_23 rfl z_b0
theorem kX5_count_25 : Cond.fieldLink RX5 25 "SecretBroker$Policies" "count" "I" ∈ wsX5_count := by decide +kernel
theorem hX5_count_X5 : ∀ w ∈ wsX50, w ∈ wsX5_count := by decide +kernel
set_option maxHeartbeats 4000000 in
set_option maxRecDepth 100000 in
theorem c_X5_count (l : Launch) (D : va_G) (cI cJ cZ : ClassId) (a5 : Nat → Nat) (P : SS) (u : Int32) (hF : f_X5_count P = some u) : zM l yX5_count wsX5_count ({ frames := 0, cells := 0, slots := 0, locals := 0 }) D (zTy cI cJ cZ) [.ref (a5 0)] (zwX5 cI cJ cZ a5 P) (some (.int u)) (zwX5 cI cJ cZ a5 P) := by
  refine z_body (cc := cX5_count) (maxL := 1) (rty := (some .int)) (own := RX5) (lv := [(0, .ref (a5 0))]) (by decide +kernel) rfl rfl (Nat.le_of_ble_eq_true rfl) rfl (fun p e s m args below meth c A C => ?_)
  refine z_aload_n C dX5_count_0 rfl 0 rfl ?_
  refine z_get (ref := "SecretBroker$Policies") (v := .int (P 4 0)) C hX5_count_X5 0 rfl rfl 4 (by decide) kX5_count_25 (fun _ h9 => h9) rfl dX5_count_1 ?_
  have hu := Option.some.inj hF
  subst hu
  exact z_iret C dX5_count_4 rfl rfl
theorem kX5_has_25 : Cond.fieldLink RX5 25 "SecretBroker$Policies" "count" "I" ∈ wsX5_has := by decide +kernel
theorem hX5_has_X5 : ∀ w ∈ wsX50, w ∈ wsX5_has := by decide +kernel
set_option maxHeartbeats 4000000 in
set_option maxRecDepth 100000 in
theorem c_X5_has (l : Launch) (D : va_G) (cI cJ cZ : ClassId) (a5 : Nat → Nat) (P : SS) (x1 : Int32) (u : Int32) (hF : f_X5_has P x1 = some u) : zM l yX5_has wsX5_has ({ frames := 0, cells := 0, slots := 0, locals := 0 }) D (zTy cI cJ cZ) [.ref (a5 0), .int x1] (zwX5 cI cJ cZ a5 P) (some (.int u)) (zwX5 cI cJ cZ a5 P) := by
  refine z_body (cc := cX5_has) (maxL := 2) (rty := (some .boolean)) (own := RX5) (lv := [(0, .ref (a5 0)), (1, .int x1)]) (by decide +kernel) rfl rfl (Nat.le_of_ble_eq_true rfl) rfl (fun p e s m args below meth c A C => ?_)
  refine z_iload_n C dX5_has_0 rfl 1 rfl ?_
  refine z_if_lt (tgt := 16) C dX5_has_1 (by decide) (fun c1 => ?_) (fun c1 => ?_)
  · have hF := zif hF c1
    refine z_iconst (v := 0) C dX5_has_16 (by decide) ?_
    have hu := Option.some.inj hF
    subst hu
    exact z_iret C dX5_has_17 rfl z_b0
  · have hF := zelse hF c1
    refine z_iload_n C dX5_has_4 rfl 1 rfl ?_
    refine z_aload_n C dX5_has_5 rfl 0 rfl ?_
    refine z_get (ref := "SecretBroker$Policies") (v := .int (P 4 0)) C hX5_has_X5 0 rfl rfl 4 (by decide) kX5_has_25 (fun _ h9 => h9) rfl dX5_has_6 ?_
    refine z_icmp_ge (tgt := 16) C dX5_has_9 (by decide) (fun c2 => ?_) (fun c2 => ?_)
    · have hF := zif hF c2
      refine z_iconst (v := 0) C dX5_has_16 (by decide) ?_
      have hu := Option.some.inj hF
      subst hu
      exact z_iret C dX5_has_17 rfl z_b0
    · have hF := zelse hF c2
      refine z_iconst (v := 1) C dX5_has_12 (by decide) ?_
      refine z_goto (tgt := 17) C dX5_has_13 (by decide) ?_
      have hu := Option.some.inj hF
      subst hu
      exact z_iret C dX5_has_17 rfl z_b1
theorem kX5_hasAll_25 : Cond.fieldLink RX5 25 "SecretBroker$Policies" "count" "I" ∈ wsX5_hasAll := by decide +kernel
theorem hX5_hasAll_X5 : ∀ w ∈ wsX50, w ∈ wsX5_hasAll := by decide +kernel
set_option maxHeartbeats 4000000 in
set_option maxRecDepth 100000 in
theorem c_X5_hasAll (l : Launch) (D : va_G) (cI cJ cZ : ClassId) (a5 : Nat → Nat) (P : SS) (x1 : Int32) (u : Int32) (hF : f_X5_hasAll P x1 = some u) : zM l yX5_hasAll wsX5_hasAll ({ frames := 0, cells := 0, slots := 0, locals := 0 }) D (zTy cI cJ cZ) [.ref (a5 0), .int x1] (zwX5 cI cJ cZ a5 P) (some (.int u)) (zwX5 cI cJ cZ a5 P) := by
  refine z_body (cc := cX5_hasAll) (maxL := 2) (rty := (some .boolean)) (own := RX5) (lv := [(0, .ref (a5 0)), (1, .int x1)]) (by decide +kernel) rfl rfl (Nat.le_of_ble_eq_true rfl) rfl (fun p e s m args below meth c A C => ?_)
  refine z_iload_n C dX5_hasAll_0 rfl 1 rfl ?_
  refine z_if_lt (tgt := 18) C dX5_hasAll_1 (by decide) (fun c1 => ?_) (fun c1 => ?_)
  · have hF := zif hF c1
    refine z_iconst (v := 0) C dX5_hasAll_18 (by decide) ?_
    have hu := Option.some.inj hF
    subst hu
    exact z_iret C dX5_hasAll_19 rfl z_b0
  · have hF := zelse hF c1
    refine z_iload_n C dX5_hasAll_4 rfl 1 rfl ?_
    refine z_iconst (v := 1) C dX5_hasAll_5 (by decide) ?_
    refine z_aload_n C dX5_hasAll_6 rfl 0 rfl ?_
    refine z_get (ref := "SecretBroker$Policies") (v := .int (P 4 0)) C hX5_hasAll_X5 0 rfl rfl 4 (by decide) kX5_hasAll_25 (fun _ h9 => h9) rfl dX5_hasAll_7 ?_
    refine z_ishl C dX5_hasAll_10 ?_
    refine z_icmp_ge (tgt := 18) C dX5_hasAll_11 (by decide) (fun c2 => ?_) (fun c2 => ?_)
    · have hF := zif hF c2
      refine z_iconst (v := 0) C dX5_hasAll_18 (by decide) ?_
      have hu := Option.some.inj hF
      subst hu
      exact z_iret C dX5_hasAll_19 rfl z_b0
    · have hF := zelse hF c2
      refine z_iconst (v := 1) C dX5_hasAll_14 (by decide) ?_
      refine z_goto (tgt := 19) C dX5_hasAll_15 (by decide) ?_
      have hu := Option.some.inj hF
      subst hu
      exact z_iret C dX5_hasAll_19 rfl z_b1
theorem kX5_add_25 : Cond.fieldLink RX5 25 "SecretBroker$Policies" "count" "I" ∈ wsX5_add := by decide +kernel
theorem hX5_add_X5 : ∀ w ∈ wsX50, w ∈ wsX5_add := by decide +kernel
set_option maxHeartbeats 4000000 in
set_option maxRecDepth 100000 in
theorem c_X5_add (l : Launch) (D : va_G) (cI cJ cZ : ClassId) (a5 : Nat → Nat) (P : SS) (u : Int32 × SS) (hF : f_X5_add P = some u) : zM l yX5_add wsX5_add ({ frames := 0, cells := 0, slots := 0, locals := 0 }) D (zTy cI cJ cZ) [.ref (a5 0)] (zwX5 cI cJ cZ a5 P) (some (.int u.1)) (zwX5 cI cJ cZ a5 u.2) := by
  refine z_body (cc := cX5_add) (maxL := 1) (rty := (some .int)) (own := RX5) (lv := [(0, .ref (a5 0))]) (by decide +kernel) rfl rfl (Nat.le_of_ble_eq_true rfl) rfl (fun p e s m args below meth c A C => ?_)
  refine z_aload_n C dX5_add_0 rfl 0 rfl ?_
  refine z_dup C dX5_add_1 rfl ?_
  refine z_get (ref := "SecretBroker$Policies") (v := .int (P 4 0)) C hX5_add_X5 0 rfl rfl 4 (by decide) kX5_add_25 (fun _ h9 => h9) rfl dX5_add_2 ?_
  refine z_iconst (v := 1) C dX5_add_5 (by decide) ?_
  refine z_iadd C dX5_add_6 ?_
  refine z_put (ws' := (zwX5 cI cJ cZ a5 (zs P 4 ((P 4 0) + 1)))) (ref := "SecretBroker$Policies") (ty := .int) C hX5_add_X5 tyX5 tyX5_ok nmX5 0 rfl rfl 4 (by decide) kX5_add_25 (fun _ h9 => h9) rfl (by decide +kernel) rfl rfl (Nat.le_of_ble_eq_true rfl) dX5_add_7 (zs_val P 4 ((P 4 0) + 1)) (zf_X5_4 cI cJ cZ a5 P ((P 4 0) + 1)) ?_
  refine z_aload_n C dX5_add_10 rfl 0 rfl ?_
  refine z_get (ref := "SecretBroker$Policies") (v := .int ((zs P 4 ((P 4 0) + 1)) 4 0)) C hX5_add_X5 0 rfl rfl 4 (by decide) kX5_add_25 (fun _ h9 => h9) rfl dX5_add_11 ?_
  refine z_iconst (v := 1) C dX5_add_14 (by decide) ?_
  refine z_isub C dX5_add_15 ?_
  have hu := Option.some.inj hF
  subst hu
  exact z_iret C dX5_add_16 rfl rfl
theorem kX5_rulesOf_9 : Cond.fieldLink RX5 9 "SecretBroker$Policies" "ruleCounts" "[I" ∈ wsX5_rulesOf := by decide +kernel
theorem hX5_rulesOf_X5 : ∀ w ∈ wsX50, w ∈ wsX5_rulesOf := by decide +kernel
set_option maxHeartbeats 4000000 in
set_option maxRecDepth 100000 in
theorem c_X5_rulesOf (l : Launch) (D : va_G) (cI cJ cZ : ClassId) (a5 : Nat → Nat) (P : SS) (x1 : Int32) (u : Int32) (hF : f_X5_rulesOf P x1 = some u) : zM l yX5_rulesOf wsX5_rulesOf ({ frames := 1, cells := 0, slots := 0, locals := 21 }) D (zTy cI cJ cZ) [.ref (a5 0), .int x1] (zwX5 cI cJ cZ a5 P) (some (.int u)) (zwX5 cI cJ cZ a5 P) := by
  refine z_body (cc := cX5_rulesOf) (maxL := 2) (rty := (some .int)) (own := RX5) (lv := [(0, .ref (a5 0)), (1, .int x1)]) (by decide +kernel) rfl rfl (Nat.le_of_ble_eq_true rfl) rfl (fun p e s m args below meth c A C => ?_)
  refine z_aload_n C dX5_rulesOf_0 rfl 0 rfl ?_
  refine z_iload_n C dX5_rulesOf_1 rfl 1 rfl ?_
  obtain ⟨r1, er1, hF⟩ := zbd hF
  refine z_callV (n := 1) (As := [.int x1]) (ws' := (zwX5 cI cJ cZ a5 P)) C (c_X5_has l D cI cJ cZ a5 P x1 r1 er1) gX5_rulesOf_X5_has rfl rfl rfl (by decide +kernel) ⟨Nat.le_of_ble_eq_true rfl, Nat.le_of_ble_eq_true rfl⟩ ⟨Nat.zero_le _, Nat.zero_le _⟩ 0 rfl rfl [] [] rfl rfl rfl rfl (Nat.le_of_ble_eq_true rfl) dX5_rulesOf_2 ?_
  refine z_if_eq (tgt := 17) C dX5_rulesOf_5 (by decide) (fun c2 => ?_) (fun c2 => ?_)
  · have hF := zif hF c2
    refine z_iconst (v := 0) C dX5_rulesOf_17 (by decide) ?_
    have hu := Option.some.inj hF
    subst hu
    exact z_iret C dX5_rulesOf_18 rfl rfl
  · have hF := zelse hF c2
    refine z_aload_n C dX5_rulesOf_8 rfl 0 rfl ?_
    refine z_get (ref := "SecretBroker$Policies") (v := .ref (a5 1)) C hX5_rulesOf_X5 0 rfl rfl 0 (by decide) kX5_rulesOf_9 (fun _ h9 => h9) rfl dX5_rulesOf_9 ?_
    refine z_iload_n C dX5_rulesOf_12 rfl 1 rfl ?_
    obtain ⟨g3, hF⟩ := zix_some hF
    refine z_iald (v := ((P 0) x1.toNatClampNeg)) C g3 1 rfl rfl rfl dX5_rulesOf_13 ?_
    refine z_goto (tgt := 18) C dX5_rulesOf_14 (by decide) ?_
    have hu := Option.some.inj hF
    subst hu
    exact z_iret C dX5_rulesOf_18 rfl rfl
theorem kX5_find_15 : Cond.fieldLink RX5 15 "SecretBroker$Policies" "patterns" "[I" ∈ wsX5_find := by decide +kernel
theorem kX5_find_18 : Cond.fieldLink RX5 18 "SecretBroker$Policies" "opens" "[Z" ∈ wsX5_find := by decide +kernel
theorem hX5_find_X5 : ∀ w ∈ wsX50, w ∈ wsX5_find := by decide +kernel
set_option maxHeartbeats 4000000 in
set_option maxRecDepth 100000 in
theorem c_X5_find_j20 (l : Launch) (D : va_G) (cI cJ cZ : ClassId) (a5 : Nat → Nat) (P : SS) (u : Int32) {p : Program} {e : Env} {s : State} {m : MethodId} {args : Array Value} {below : List Frame} {meth : Method} {c : Code} {A : Nat → Prop} (C : zC p s m args meth c cX5_find 7 (some .int) RX5 wsX5_find D (zTy cI cJ cZ) A s.heap) : ∀ (n : Nat) (v2 : Int32) (v3 : Int32) (v5 : Int32) (v6 : Int32), f_X5_find_20 P n v2 v3 v5 v6 = some u → zW p l e { frames := 2, cells := 0, slots := 0, locals := 42 } s m args below meth c 7 D A s.heap 0 0 (MQ below (zQ D (zTy cI cJ cZ) (some (.int u)) (zwX5 cI cJ cZ a5 P) A) args s 0 0 A) (zwX5 cI cJ cZ a5 P) [(0, .ref (a5 0)), (2, .int v2), (3, .int v3), (5, .int v5), (6, .int v6)] 20 [] := by
  intro n
  induction n with
  | zero => intro v2 v3 v5 v6 hF; exact absurd (show none = some u from hF) (fun q => nomatch q)
  | succ n ih =>
    intro v2 v3 v5 v6 hF
    refine z_iload C dX5_find_20 4 rfl ?_
    refine z_iload C dX5_find_22 3 rfl ?_
    refine z_icmp_ge (tgt := 58) C dX5_find_24 (by decide) (fun c2 => ?_) (fun c2 => ?_)
    · have hF := zif hF c2
      refine z_iconst (v := (-1)) C dX5_find_58 (by decide) ?_
      have hu := Option.some.inj hF
      subst hu
      exact z_iret C dX5_find_59 rfl rfl
    · have hF := zelse hF c2
      refine z_aload_n C dX5_find_27 rfl 0 rfl ?_
      refine z_get (ref := "SecretBroker$Policies") (v := .ref (a5 2)) C hX5_find_X5 0 rfl rfl 1 (by decide) kX5_find_15 (fun _ h9 => h9) rfl dX5_find_28 ?_
      refine z_iload C dX5_find_31 4 rfl ?_
      obtain ⟨g3, hF⟩ := zix_some hF
      refine z_iald (v := ((P 1) v6.toNatClampNeg)) C g3 2 rfl rfl rfl dX5_find_33 ?_
      refine z_iload_n C dX5_find_34 rfl 1 rfl ?_
      refine z_icmp_ne (tgt := 52) C dX5_find_35 (by decide) (fun c4 => ?_) (fun c4 => ?_)
      · have hF := zelse hF c4
        refine z_iinc (v := (v6 + 1)) (lv' := [(6, .int (v6 + 1)), (0, .ref (a5 0)), (2, .int v2), (3, .int v3), (5, .int v5)]) C dX5_find_52 4 rfl rfl (by decide) rfl ?_
        refine z_goto (tgt := 20) C dX5_find_55 (by decide) ?_
        exact z_sub C [1, 2, 3, 4, 0] rfl (ih v2 v3 v5 (v6 + 1) hF)
      · have hF := zif hF c4
        refine z_aload_n C dX5_find_38 rfl 0 rfl ?_
        refine z_get (ref := "SecretBroker$Policies") (v := .ref (a5 3)) C hX5_find_X5 0 rfl rfl 2 (by decide) kX5_find_18 (fun _ h9 => h9) rfl dX5_find_39 ?_
        refine z_iload C dX5_find_42 4 rfl ?_
        obtain ⟨g5, hF⟩ := zix_some hF
        refine z_zald (v := ((P 2) v6.toNatClampNeg)) C g5 3 rfl rfl rfl dX5_find_44 ?_
        refine z_iload_n C dX5_find_45 rfl 2 rfl ?_
        refine z_icmp_ne (tgt := 52) C dX5_find_46 (by decide) (fun c6 => ?_) (fun c6 => ?_)
        · have hF := zelse hF c6
          refine z_iinc (v := (v6 + 1)) (lv' := [(6, .int (v6 + 1)), (0, .ref (a5 0)), (2, .int v2), (3, .int v3), (5, .int v5)]) C dX5_find_52 4 rfl rfl (by decide) rfl ?_
          refine z_goto (tgt := 20) C dX5_find_55 (by decide) ?_
          exact z_sub C [1, 2, 3, 4, 0] rfl (ih v2 v3 v5 (v6 + 1) hF)
        · have hF := zif hF c6
          refine z_iload C dX5_find_49 4 rfl ?_
          have hu := Option.some.inj hF
          subst hu
          exact z_iret C dX5_find_51 rfl rfl
set_option maxHeartbeats 4000000 in
set_option maxRecDepth 100000 in
theorem c_X5_find (l : Launch) (D : va_G) (cI cJ cZ : ClassId) (a5 : Nat → Nat) (P : SS) (x1 : Int32) (x2 : Int32) (x3 : Int32) (u : Int32) (hF : f_X5_find P x1 x2 x3 = some u) : zM l yX5_find wsX5_find ({ frames := 2, cells := 0, slots := 0, locals := 42 }) D (zTy cI cJ cZ) [.ref (a5 0), .int x1, .int x2, .int x3] (zwX5 cI cJ cZ a5 P) (some (.int u)) (zwX5 cI cJ cZ a5 P) := by
  refine z_body (cc := cX5_find) (maxL := 7) (rty := (some .int)) (own := RX5) (lv := [(0, .ref (a5 0)), (1, .int x1), (2, .int x2), (3, .int x3)]) (by decide +kernel) rfl rfl (Nat.le_of_ble_eq_true rfl) rfl (fun p e s m args below meth c A C => ?_)
  refine z_iload_n C dX5_find_0 rfl 1 rfl ?_
  refine z_bipush (v := 6) C dX5_find_1 (by decide) ?_
  refine z_imul C dX5_find_3 ?_
  refine z_istore (lv' := [(4, .int (x1 * 6)), (0, .ref (a5 0)), (1, .int x1), (2, .int x2), (3, .int x3)]) C dX5_find_4 (by decide) rfl ?_
  refine z_iload C dX5_find_6 0 rfl ?_
  refine z_aload_n C dX5_find_8 rfl 1 rfl ?_
  refine z_iload_n C dX5_find_9 rfl 2 rfl ?_
  obtain ⟨r1, er1, hF⟩ := zbd hF
  refine z_callV (n := 1) (As := [.int x1]) (ws' := (zwX5 cI cJ cZ a5 P)) C (c_X5_rulesOf l D cI cJ cZ a5 P x1 r1 er1) gX5_find_X5_rulesOf rfl rfl rfl (by decide +kernel) ⟨Nat.le_of_ble_eq_true rfl, Nat.le_of_ble_eq_true rfl⟩ ⟨Nat.zero_le _, Nat.zero_le _⟩ 0 rfl rfl [] [] rfl rfl rfl rfl (Nat.le_of_ble_eq_true rfl) dX5_find_10 ?_
  refine z_iadd C dX5_find_13 ?_
  refine z_istore (lv' := [(5, .int ((x1 * 6) + r1)), (4, .int (x1 * 6)), (0, .ref (a5 0)), (1, .int x1), (2, .int x2), (3, .int x3)]) C dX5_find_14 (by decide) rfl ?_
  refine z_iload C dX5_find_16 1 rfl ?_
  refine z_istore (lv' := [(6, .int (x1 * 6)), (5, .int ((x1 * 6) + r1)), (4, .int (x1 * 6)), (0, .ref (a5 0)), (1, .int x1), (2, .int x2), (3, .int x3)]) C dX5_find_18 (by decide) rfl ?_
  exact z_sub C [3, 5, 6, 1, 0] rfl (c_X5_find_j20 l D cI cJ cZ a5 P u C 600 x2 x3 ((x1 * 6) + r1) (x1 * 6) hF)
