theorem hX2_has_X6 : ∀ w ∈ wsX60, w ∈ wsX2_has := by decide +kernel
set_option maxHeartbeats 4000000 in
set_option maxRecDepth 100000 in
theorem c_X2_has_6 (l : Launch) (D : va_G) (cI cJ cZ : ClassId) (a6 : Nat → Nat) (T : SS) (x1 : Int32) (u : Int32) (hF : f_X2_has T x1 = some u) : zM l yX2_has wsX2_has ({ frames := 0, cells := 0, slots := 0, locals := 0 }) D (zTy cI cJ cZ) [.ref (a6 0), .int x1] (zwX6 cI cJ cZ a6 T) (some (.int u)) (zwX6 cI cJ cZ a6 T) := by
  refine z_body (cc := cX2_has) (maxL := 2) (rty := (some .boolean)) (own := RX2) (lv := [(0, .ref (a6 0)), (1, .int x1)]) (by decide +kernel) rfl rfl (Nat.le_of_ble_eq_true rfl) rfl (fun p e s m args below meth c A C => ?_)
  refine z_iload_n C dX2_has_0 rfl 1 rfl ?_
  refine z_if_lt (tgt := 16) C dX2_has_1 (by decide) (fun c1 => ?_) (fun c1 => ?_)
  · have hF := zif hF c1
    refine z_iconst (v := 0) C dX2_has_16 (by decide) ?_
    have hu := Option.some.inj hF
    subst hu
    exact z_iret C dX2_has_17 rfl z_b0
  · have hF := zelse hF c1
    refine z_iload_n C dX2_has_4 rfl 1 rfl ?_
    refine z_aload_n C dX2_has_5 rfl 0 rfl ?_
    refine z_get (ref := "SecretBroker$Leased") (v := .int (T 4 0)) C hX2_has_X6 0 rfl rfl 4 (by decide) kX2_has_25 (fun _ h9 => h9) rfl dX2_has_6 ?_
    refine z_icmp_ge (tgt := 16) C dX2_has_9 (by decide) (fun c2 => ?_) (fun c2 => ?_)
    · have hF := zif hF c2
      refine z_iconst (v := 0) C dX2_has_16 (by decide) ?_
      have hu := Option.some.inj hF
      subst hu
      exact z_iret C dX2_has_17 rfl z_b0
    · have hF := zelse hF c2
      refine z_iconst (v := 1) C dX2_has_12 (by decide) ?_
      refine z_goto (tgt := 17) C dX2_has_13 (by decide) ?_
      have hu := Option.some.inj hF
      subst hu
      exact z_iret C dX2_has_17 rfl z_b1
theorem hX2_isOn_X6 : ∀ w ∈ wsX60, w ∈ wsX2_isOn := by decide +kernel
set_option maxHeartbeats 4000000 in
set_option maxRecDepth 100000 in
theorem c_X2_isOn_6 (l : Launch) (D : va_G) (cI cJ cZ : ClassId) (a6 : Nat → Nat) (T : SS) (x1 : Int32) (u : Int32) (hF : f_X2_isOn T x1 = some u) : zM l yX2_isOn wsX2_isOn ({ frames := 1, cells := 0, slots := 0, locals := 21 }) D (zTy cI cJ cZ) [.ref (a6 0), .int x1] (zwX6 cI cJ cZ a6 T) (some (.int u)) (zwX6 cI cJ cZ a6 T) := by
  refine z_body (cc := cX2_isOn) (maxL := 2) (rty := (some .boolean)) (own := RX2) (lv := [(0, .ref (a6 0)), (1, .int x1)]) (by decide +kernel) rfl rfl (Nat.le_of_ble_eq_true rfl) rfl (fun p e s m args below meth c A C => ?_)
  refine z_aload_n C dX2_isOn_0 rfl 0 rfl ?_
  refine z_iload_n C dX2_isOn_1 rfl 1 rfl ?_
  obtain ⟨r1, er1, hF⟩ := zbd hF
  refine z_callU (n := 1) (As := [.int x1]) (ws' := (zwX6 cI cJ cZ a6 T)) C (c_X2_has_6 l D cI cJ cZ a6 T x1 r1 er1) gX2_isOn_X2_has_u32X6 rfl rfl rfl rfl (by decide +kernel) ⟨Nat.le_of_ble_eq_true rfl, Nat.le_of_ble_eq_true rfl⟩ ⟨Nat.zero_le _, Nat.zero_le _⟩ 0 rfl rfl [] [] rfl rfl rfl rfl (Nat.le_of_ble_eq_true rfl) dX2_isOn_2 ?_
  refine z_if_eq (tgt := 21) C dX2_isOn_5 (by decide) (fun c2 => ?_) (fun c2 => ?_)
  · have hF := zif hF c2
    refine z_iconst (v := 0) C dX2_isOn_21 (by decide) ?_
    have hu := Option.some.inj hF
    subst hu
    exact z_iret C dX2_isOn_22 rfl z_b0
  · have hF := zelse hF c2
    refine z_aload_n C dX2_isOn_8 rfl 0 rfl ?_
    refine z_get (ref := "SecretBroker$Leased") (v := .ref (a6 4)) C hX2_isOn_X6 0 rfl rfl 3 (by decide) kX2_isOn_21 (fun _ h9 => h9) rfl dX2_isOn_9 ?_
    refine z_iload_n C dX2_isOn_12 rfl 1 rfl ?_
    obtain ⟨g3, hF⟩ := zix_some hF
    refine z_zald (v := ((T 3) x1.toNatClampNeg)) C g3 4 rfl rfl rfl dX2_isOn_13 ?_
    refine z_if_eq (tgt := 21) C dX2_isOn_14 (by decide) (fun c4 => ?_) (fun c4 => ?_)
    · have hF := zif hF c4
      refine z_iconst (v := 0) C dX2_isOn_21 (by decide) ?_
      have hu := Option.some.inj hF
      subst hu
      exact z_iret C dX2_isOn_22 rfl z_b0
    · have hF := zelse hF c4
      refine z_iconst (v := 1) C dX2_isOn_17 (by decide) ?_
      refine z_goto (tgt := 22) C dX2_isOn_18 (by decide) ?_
      have hu := Option.some.inj hF
      subst hu
      exact z_iret C dX2_isOn_22 rfl z_b1
theorem kX1_endOfEnded_9 : Cond.fieldLink RX1 9 "SecretBroker$Credentials" "owners" "[I" ∈ wsX1_endOfEnded := by decide +kernel
theorem hX1_endOfEnded_X1 : ∀ w ∈ wsX10, w ∈ wsX1_endOfEnded := by decide +kernel
set_option maxHeartbeats 4000000 in
set_option maxRecDepth 100000 in
theorem c_X1_endOfEnded_j4 (l : Launch) (D : va_G) (cI cJ cZ : ClassId) (a6 : Nat → Nat) (a1 : Nat → Nat) (T : SS) (K : SS) (u : Int32 × SS) {p : Program} {e : Env} {s : State} {m : MethodId} {args : Array Value} {below : List Frame} {meth : Method} {c : Code} {A : Nat → Prop} (C : zC p s m args meth c cX1_endOfEnded 4 (some .int) RX1 wsX1_endOfEnded D (zTy cI cJ cZ) A s.heap) : ∀ (n : Nat) (Kc : SS) (v2 : Int32) (v3 : Int32), f_X1_endOfEnded_4 T n Kc v2 v3 = some u → zW p l e { frames := 3, cells := 0, slots := 0, locals := 63 } s m args below meth c 4 D A s.heap 0 0 (MQ below (zQ D (zTy cI cJ cZ) (some (.int u.1)) (zwX6 cI cJ cZ a6 T ++ zwX1 cI cJ cZ a1 u.2) A) args s 0 0 A) (zwX6 cI cJ cZ a6 T ++ zwX1 cI cJ cZ a1 Kc) [(0, .ref (a1 0)), (1, .ref (a6 0)), (2, .int v2), (3, .int v3)] 4 [] := by
  intro n
  induction n with
  | zero => intro Kc v2 v3 hF; exact absurd (show none = some u from hF) (fun q => nomatch q)
  | succ n ih =>
    intro Kc v2 v3 hF
    refine z_iload_n C dX1_endOfEnded_4 rfl 3 rfl ?_
    refine z_aload_n C dX1_endOfEnded_5 rfl 0 rfl ?_
    obtain ⟨r1, er1, hF⟩ := zbd hF
    refine z_callU (n := 0) (As := []) (ws' := (zwX6 cI cJ cZ a6 T ++ zwX1 cI cJ cZ a1 Kc)) C (c_X2_made_1 l D cI cJ cZ a1 Kc r1 er1) gX1_endOfEnded_X2_made_u22X1 rfl rfl rfl rfl (by decide +kernel) ⟨Nat.le_of_ble_eq_true rfl, Nat.le_of_ble_eq_true rfl⟩ ⟨Nat.zero_le _, Nat.zero_le _⟩ 8 rfl rfl (zwX6 cI cJ cZ a6 T) [] rfl rfl rfl rfl (Nat.le_of_ble_eq_true rfl) dX1_endOfEnded_6 ?_
    refine z_icmp_ge (tgt := 39) C dX1_endOfEnded_9 (by decide) (fun c2 => ?_) (fun c2 => ?_)
    · have hF := zif hF c2
      refine z_iload_n C dX1_endOfEnded_39 rfl 2 rfl ?_
      have hu := Option.some.inj hF
      subst hu
      exact z_iret C dX1_endOfEnded_40 rfl rfl
    · have hF := zelse hF c2
      refine z_aload_n C dX1_endOfEnded_12 rfl 1 rfl ?_
      refine z_aload_n C dX1_endOfEnded_13 rfl 0 rfl ?_
      refine z_get (ref := "SecretBroker$Credentials") (v := .ref (a1 5)) C hX1_endOfEnded_X1 8 rfl rfl 6 (by decide) kX1_endOfEnded_9 (fun _ h9 => h9) rfl dX1_endOfEnded_14 ?_
      refine z_iload_n C dX1_endOfEnded_17 rfl 3 rfl ?_
      obtain ⟨g3, hF⟩ := zix_some hF
      refine z_iald (v := ((Kc 6) v3.toNatClampNeg)) C g3 13 rfl rfl rfl dX1_endOfEnded_18 ?_
      obtain ⟨r4, er4, hF⟩ := zbd hF
      refine z_callU (n := 1) (As := [.int ((Kc 6) v3.toNatClampNeg)]) (ws' := (zwX6 cI cJ cZ a6 T ++ zwX1 cI cJ cZ a1 Kc)) C (c_X2_isOn_6 l D cI cJ cZ a6 T ((Kc 6) v3.toNatClampNeg) r4 er4) gX1_endOfEnded_X2_isOn_u39X6 rfl rfl rfl rfl (by decide +kernel) ⟨Nat.le_of_ble_eq_true rfl, Nat.le_of_ble_eq_true rfl⟩ ⟨Nat.zero_le _, Nat.zero_le _⟩ 0 rfl rfl [] (zwX1 cI cJ cZ a1 Kc) rfl rfl rfl rfl (Nat.le_of_ble_eq_true rfl) dX1_endOfEnded_19 ?_
      refine z_if_ne (tgt := 33) C dX1_endOfEnded_22 (by decide) (fun c5 => ?_) (fun c5 => ?_)
      · have hF := zelse hF c5
        refine z_iinc (v := (v3 + 1)) (lv' := [(3, .int (v3 + 1)), (0, .ref (a1 0)), (1, .ref (a6 0)), (2, .int v2)]) C dX1_endOfEnded_33 3 rfl rfl (by decide) rfl ?_
        refine z_goto (tgt := 4) C dX1_endOfEnded_36 (by decide) ?_
        exact z_sub C [1, 2, 3, 0] rfl (ih Kc v2 (v3 + 1) hF)
      · have hF := zif hF c5
        refine z_iload_n C dX1_endOfEnded_25 rfl 2 rfl ?_
        refine z_aload_n C dX1_endOfEnded_26 rfl 0 rfl ?_
        refine z_iload_n C dX1_endOfEnded_27 rfl 3 rfl ?_
        obtain ⟨r6, er6, hF⟩ := zbd hF
        refine z_callU (n := 1) (As := [.int v3]) (ws' := (zwX6 cI cJ cZ a6 T ++ zwX1 cI cJ cZ a1 r6.2)) C (c_X2_end_1 l D cI cJ cZ a1 Kc v3 r6 er6) gX1_endOfEnded_X2_end_u35X1 rfl rfl rfl rfl (by decide +kernel) ⟨Nat.le_of_ble_eq_true rfl, Nat.le_of_ble_eq_true rfl⟩ ⟨Nat.zero_le _, Nat.zero_le _⟩ 8 rfl rfl (zwX6 cI cJ cZ a6 T) [] rfl rfl rfl rfl (Nat.le_of_ble_eq_true rfl) dX1_endOfEnded_28 ?_
        refine z_iadd C dX1_endOfEnded_31 ?_
        refine z_istore_n (lv' := [(2, .int (v2 + r6.1)), (0, .ref (a1 0)), (1, .ref (a6 0)), (3, .int v3)]) C dX1_endOfEnded_32 rfl (by decide) rfl ?_
        refine z_iinc (v := (v3 + 1)) (lv' := [(3, .int (v3 + 1)), (2, .int (v2 + r6.1)), (0, .ref (a1 0)), (1, .ref (a6 0))]) C dX1_endOfEnded_33 3 rfl rfl (by decide) rfl ?_
        refine z_goto (tgt := 4) C dX1_endOfEnded_36 (by decide) ?_
        exact z_sub C [2, 3, 1, 0] rfl (ih r6.2 (v2 + r6.1) (v3 + 1) hF)
set_option maxHeartbeats 4000000 in
set_option maxRecDepth 100000 in
theorem c_X1_endOfEnded (l : Launch) (D : va_G) (cI cJ cZ : ClassId) (a6 : Nat → Nat) (a1 : Nat → Nat) (T : SS) (K : SS) (u : Int32 × SS) (hF : f_X1_endOfEnded T K = some u) : zM l yX1_endOfEnded wsX1_endOfEnded ({ frames := 3, cells := 0, slots := 0, locals := 63 }) D (zTy cI cJ cZ) [.ref (a1 0), .ref (a6 0)] (zwX6 cI cJ cZ a6 T ++ zwX1 cI cJ cZ a1 K) (some (.int u.1)) (zwX6 cI cJ cZ a6 T ++ zwX1 cI cJ cZ a1 u.2) := by
  refine z_body (cc := cX1_endOfEnded) (maxL := 4) (rty := (some .int)) (own := RX1) (lv := [(0, .ref (a1 0)), (1, .ref (a6 0))]) (by decide +kernel) rfl rfl (Nat.le_of_ble_eq_true rfl) rfl (fun p e s m args below meth c A C => ?_)
  refine z_iconst (v := 0) C dX1_endOfEnded_0 (by decide) ?_
  refine z_istore_n (lv' := [(2, .int 0), (0, .ref (a1 0)), (1, .ref (a6 0))]) C dX1_endOfEnded_1 rfl (by decide) rfl ?_
  refine z_iconst (v := 0) C dX1_endOfEnded_2 (by decide) ?_
  refine z_istore_n (lv' := [(3, .int 0), (2, .int 0), (0, .ref (a1 0)), (1, .ref (a6 0))]) C dX1_endOfEnded_3 rfl (by decide) rfl ?_
  exact z_sub C [2, 3, 1, 0] rfl (c_X1_endOfEnded_j4 l D cI cJ cZ a6 a1 T K u C 600 K 0 0 hF)
theorem hX2_made_X6 : ∀ w ∈ wsX60, w ∈ wsX2_made := by decide +kernel
set_option maxHeartbeats 4000000 in
set_option maxRecDepth 100000 in
theorem c_X2_made_6 (l : Launch) (D : va_G) (cI cJ cZ : ClassId) (a6 : Nat → Nat) (T : SS) (u : Int32) (hF : f_X2_made T = some u) : zM l yX2_made wsX2_made ({ frames := 0, cells := 0, slots := 0, locals := 0 }) D (zTy cI cJ cZ) [.ref (a6 0)] (zwX6 cI cJ cZ a6 T) (some (.int u)) (zwX6 cI cJ cZ a6 T) := by
  refine z_body (cc := cX2_made) (maxL := 1) (rty := (some .int)) (own := RX2) (lv := [(0, .ref (a6 0))]) (by decide +kernel) rfl rfl (Nat.le_of_ble_eq_true rfl) rfl (fun p e s m args below meth c A C => ?_)
  refine z_aload_n C dX2_made_0 rfl 0 rfl ?_
  refine z_get (ref := "SecretBroker$Leased") (v := .int (T 4 0)) C hX2_made_X6 0 rfl rfl 4 (by decide) kX2_made_25 (fun _ h9 => h9) rfl dX2_made_1 ?_
  have hu := Option.some.inj hF
  subst hu
  exact z_iret C dX2_made_4 rfl rfl
theorem kX2_living_29 : Cond.fieldLink RX2 29 "SecretBroker$Leased" "living" "I" ∈ wsX2_living := by decide +kernel
theorem hX2_living_X6 : ∀ w ∈ wsX60, w ∈ wsX2_living := by decide +kernel
set_option maxHeartbeats 4000000 in
set_option maxRecDepth 100000 in
theorem c_X2_living_6 (l : Launch) (D : va_G) (cI cJ cZ : ClassId) (a6 : Nat → Nat) (T : SS) (u : Int32) (hF : f_X2_living T = some u) : zM l yX2_living wsX2_living ({ frames := 0, cells := 0, slots := 0, locals := 0 }) D (zTy cI cJ cZ) [.ref (a6 0)] (zwX6 cI cJ cZ a6 T) (some (.int u)) (zwX6 cI cJ cZ a6 T) := by
  refine z_body (cc := cX2_living) (maxL := 1) (rty := (some .int)) (own := RX2) (lv := [(0, .ref (a6 0))]) (by decide +kernel) rfl rfl (Nat.le_of_ble_eq_true rfl) rfl (fun p e s m args below meth c A C => ?_)
  refine z_aload_n C dX2_living_0 rfl 0 rfl ?_
  refine z_get (ref := "SecretBroker$Leased") (v := .int (T 5 0)) C hX2_living_X6 0 rfl rfl 5 (by decide) kX2_living_29 (fun _ h9 => h9) rfl dX2_living_1 ?_
  have hu := Option.some.inj hF
  subst hu
  exact z_iret C dX2_living_4 rfl rfl
theorem hX2_living_X1 : ∀ w ∈ wsX10, w ∈ wsX2_living := by decide +kernel
set_option maxHeartbeats 4000000 in
set_option maxRecDepth 100000 in
theorem c_X2_living_1 (l : Launch) (D : va_G) (cI cJ cZ : ClassId) (a1 : Nat → Nat) (K : SS) (u : Int32) (hF : f_X2_living K = some u) : zM l yX2_living wsX2_living ({ frames := 0, cells := 0, slots := 0, locals := 0 }) D (zTy cI cJ cZ) [.ref (a1 0)] (zwX1 cI cJ cZ a1 K) (some (.int u)) (zwX1 cI cJ cZ a1 K) := by
  refine z_body (cc := cX2_living) (maxL := 1) (rty := (some .int)) (own := RX2) (lv := [(0, .ref (a1 0))]) (by decide +kernel) rfl rfl (Nat.le_of_ble_eq_true rfl) rfl (fun p e s m args below meth c A C => ?_)
  refine z_aload_n C dX2_living_0 rfl 0 rfl ?_
  refine z_get (ref := "SecretBroker$Leased") (v := .int (K 5 0)) C hX2_living_X1 0 rfl rfl 5 (by decide) kX2_living_29 (fun _ h9 => h9) rfl dX2_living_1 ?_
  have hu := Option.some.inj hF
  subst hu
  exact z_iret C dX2_living_4 rfl rfl
theorem kX2_isFull_25 : Cond.fieldLink RX2 25 "SecretBroker$Leased" "made" "I" ∈ wsX2_isFull := by decide +kernel
theorem hX2_isFull_X6 : ∀ w ∈ wsX60, w ∈ wsX2_isFull := by decide +kernel
set_option maxHeartbeats 4000000 in
set_option maxRecDepth 100000 in
theorem c_X2_isFull_6 (l : Launch) (D : va_G) (cI cJ cZ : ClassId) (a6 : Nat → Nat) (T : SS) (u : Int32) (hF : f_X2_isFull T = some u) : zM l yX2_isFull wsX2_isFull ({ frames := 0, cells := 0, slots := 0, locals := 0 }) D (zTy cI cJ cZ) [.ref (a6 0)] (zwX6 cI cJ cZ a6 T) (some (.int u)) (zwX6 cI cJ cZ a6 T) := by
  refine z_body (cc := cX2_isFull) (maxL := 1) (rty := (some .boolean)) (own := RX2) (lv := [(0, .ref (a6 0))]) (by decide +kernel) rfl rfl (Nat.le_of_ble_eq_true rfl) rfl (fun p e s m args below meth c A C => ?_)
  refine z_aload_n C dX2_isFull_0 rfl 0 rfl ?_
  refine z_get (ref := "SecretBroker$Leased") (v := .int (T 4 0)) C hX2_isFull_X6 0 rfl rfl 4 (by decide) kX2_isFull_25 (fun _ h9 => h9) rfl dX2_isFull_1 ?_
  refine z_sipush (v := 513) C dX2_isFull_4 (by decide) ?_
  refine z_icmp_lt (tgt := 14) C dX2_isFull_7 (by decide) (fun c1 => ?_) (fun c1 => ?_)
  · have hF := zif hF c1
    refine z_iconst (v := 0) C dX2_isFull_14 (by decide) ?_
    have hu := Option.some.inj hF
    subst hu
    exact z_iret C dX2_isFull_15 rfl z_b0
  · have hF := zelse hF c1
    refine z_iconst (v := 1) C dX2_isFull_10 (by decide) ?_
    refine z_goto (tgt := 15) C dX2_isFull_11 (by decide) ?_
    have hu := Option.some.inj hF
    subst hu
    exact z_iret C dX2_isFull_15 rfl z_b1
theorem hX2_isFull_X1 : ∀ w ∈ wsX10, w ∈ wsX2_isFull := by decide +kernel
set_option maxHeartbeats 4000000 in
set_option maxRecDepth 100000 in
theorem c_X2_isFull_1 (l : Launch) (D : va_G) (cI cJ cZ : ClassId) (a1 : Nat → Nat) (K : SS) (u : Int32) (hF : f_X2_isFull K = some u) : zM l yX2_isFull wsX2_isFull ({ frames := 0, cells := 0, slots := 0, locals := 0 }) D (zTy cI cJ cZ) [.ref (a1 0)] (zwX1 cI cJ cZ a1 K) (some (.int u)) (zwX1 cI cJ cZ a1 K) := by
  refine z_body (cc := cX2_isFull) (maxL := 1) (rty := (some .boolean)) (own := RX2) (lv := [(0, .ref (a1 0))]) (by decide +kernel) rfl rfl (Nat.le_of_ble_eq_true rfl) rfl (fun p e s m args below meth c A C => ?_)
  refine z_aload_n C dX2_isFull_0 rfl 0 rfl ?_
  refine z_get (ref := "SecretBroker$Leased") (v := .int (K 4 0)) C hX2_isFull_X1 0 rfl rfl 4 (by decide) kX2_isFull_25 (fun _ h9 => h9) rfl dX2_isFull_1 ?_
  refine z_sipush (v := 513) C dX2_isFull_4 (by decide) ?_
  refine z_icmp_lt (tgt := 14) C dX2_isFull_7 (by decide) (fun c1 => ?_) (fun c1 => ?_)
  · have hF := zif hF c1
    refine z_iconst (v := 0) C dX2_isFull_14 (by decide) ?_
    have hu := Option.some.inj hF
    subst hu
    exact z_iret C dX2_isFull_15 rfl z_b0
  · have hF := zelse hF c1
    refine z_iconst (v := 1) C dX2_isFull_10 (by decide) ?_
    refine z_goto (tgt := 15) C dX2_isFull_11 (by decide) ?_
    have hu := Option.some.inj hF
    subst hu
    exact z_iret C dX2_isFull_15 rfl z_b1
theorem kX2_endAt_15 : Cond.fieldLink RX2 15 "SecretBroker$Leased" "ends" "[I" ∈ wsX2_endAt := by decide +kernel
theorem hX2_endAt_X6 : ∀ w ∈ wsX60, w ∈ wsX2_endAt := by decide +kernel
set_option maxHeartbeats 4000000 in
set_option maxRecDepth 100000 in
theorem c_X2_endAt_6 (l : Launch) (D : va_G) (cI cJ cZ : ClassId) (a6 : Nat → Nat) (T : SS) (x1 : Int32) (u : Int32) (hF : f_X2_endAt T x1 = some u) : zM l yX2_endAt wsX2_endAt ({ frames := 1, cells := 0, slots := 0, locals := 21 }) D (zTy cI cJ cZ) [.ref (a6 0), .int x1] (zwX6 cI cJ cZ a6 T) (some (.int u)) (zwX6 cI cJ cZ a6 T) := by
  refine z_body (cc := cX2_endAt) (maxL := 2) (rty := (some .int)) (own := RX2) (lv := [(0, .ref (a6 0)), (1, .int x1)]) (by decide +kernel) rfl rfl (Nat.le_of_ble_eq_true rfl) rfl (fun p e s m args below meth c A C => ?_)
  refine z_aload_n C dX2_endAt_0 rfl 0 rfl ?_
  refine z_iload_n C dX2_endAt_1 rfl 1 rfl ?_
  obtain ⟨r1, er1, hF⟩ := zbd hF
  refine z_callU (n := 1) (As := [.int x1]) (ws' := (zwX6 cI cJ cZ a6 T)) C (c_X2_has_6 l D cI cJ cZ a6 T x1 r1 er1) gX2_endAt_X2_has_u32X6 rfl rfl rfl rfl (by decide +kernel) ⟨Nat.le_of_ble_eq_true rfl, Nat.le_of_ble_eq_true rfl⟩ ⟨Nat.zero_le _, Nat.zero_le _⟩ 0 rfl rfl [] [] rfl rfl rfl rfl (Nat.le_of_ble_eq_true rfl) dX2_endAt_2 ?_
  refine z_if_eq (tgt := 17) C dX2_endAt_5 (by decide) (fun c2 => ?_) (fun c2 => ?_)
  · have hF := zif hF c2
    refine z_iconst (v := (-1)) C dX2_endAt_17 (by decide) ?_
    have hu := Option.some.inj hF
    subst hu
    exact z_iret C dX2_endAt_18 rfl rfl
  · have hF := zelse hF c2
    refine z_aload_n C dX2_endAt_8 rfl 0 rfl ?_
    refine z_get (ref := "SecretBroker$Leased") (v := .ref (a6 2)) C hX2_endAt_X6 0 rfl rfl 1 (by decide) kX2_endAt_15 (fun _ h9 => h9) rfl dX2_endAt_9 ?_
    refine z_iload_n C dX2_endAt_12 rfl 1 rfl ?_
    obtain ⟨g3, hF⟩ := zix_some hF
    refine z_iald (v := ((T 1) x1.toNatClampNeg)) C g3 2 rfl rfl rfl dX2_endAt_13 ?_
    refine z_goto (tgt := 18) C dX2_endAt_14 (by decide) ?_
    have hu := Option.some.inj hF
    subst hu
    exact z_iret C dX2_endAt_18 rfl rfl
theorem hX2_endAt_X1 : ∀ w ∈ wsX10, w ∈ wsX2_endAt := by decide +kernel
set_option maxHeartbeats 4000000 in
set_option maxRecDepth 100000 in
theorem c_X2_endAt_1 (l : Launch) (D : va_G) (cI cJ cZ : ClassId) (a1 : Nat → Nat) (K : SS) (x1 : Int32) (u : Int32) (hF : f_X2_endAt K x1 = some u) : zM l yX2_endAt wsX2_endAt ({ frames := 1, cells := 0, slots := 0, locals := 21 }) D (zTy cI cJ cZ) [.ref (a1 0), .int x1] (zwX1 cI cJ cZ a1 K) (some (.int u)) (zwX1 cI cJ cZ a1 K) := by
  refine z_body (cc := cX2_endAt) (maxL := 2) (rty := (some .int)) (own := RX2) (lv := [(0, .ref (a1 0)), (1, .int x1)]) (by decide +kernel) rfl rfl (Nat.le_of_ble_eq_true rfl) rfl (fun p e s m args below meth c A C => ?_)
  refine z_aload_n C dX2_endAt_0 rfl 0 rfl ?_
  refine z_iload_n C dX2_endAt_1 rfl 1 rfl ?_
  obtain ⟨r1, er1, hF⟩ := zbd hF
  refine z_callU (n := 1) (As := [.int x1]) (ws' := (zwX1 cI cJ cZ a1 K)) C (c_X2_has_1 l D cI cJ cZ a1 K x1 r1 er1) gX2_endAt_X2_has_u32X1 rfl rfl rfl rfl (by decide +kernel) ⟨Nat.le_of_ble_eq_true rfl, Nat.le_of_ble_eq_true rfl⟩ ⟨Nat.zero_le _, Nat.zero_le _⟩ 0 rfl rfl [] [] rfl rfl rfl rfl (Nat.le_of_ble_eq_true rfl) dX2_endAt_2 ?_
  refine z_if_eq (tgt := 17) C dX2_endAt_5 (by decide) (fun c2 => ?_) (fun c2 => ?_)
  · have hF := zif hF c2
    refine z_iconst (v := (-1)) C dX2_endAt_17 (by decide) ?_
    have hu := Option.some.inj hF
    subst hu
    exact z_iret C dX2_endAt_18 rfl rfl
  · have hF := zelse hF c2
    refine z_aload_n C dX2_endAt_8 rfl 0 rfl ?_
    refine z_get (ref := "SecretBroker$Leased") (v := .ref (a1 2)) C hX2_endAt_X1 0 rfl rfl 1 (by decide) kX2_endAt_15 (fun _ h9 => h9) rfl dX2_endAt_9 ?_
    refine z_iload_n C dX2_endAt_12 rfl 1 rfl ?_
    obtain ⟨g3, hF⟩ := zix_some hF
    refine z_iald (v := ((K 1) x1.toNatClampNeg)) C g3 2 rfl rfl rfl dX2_endAt_13 ?_
    refine z_goto (tgt := 18) C dX2_endAt_14 (by decide) ?_
    have hu := Option.some.inj hF
    subst hu
    exact z_iret C dX2_endAt_18 rfl rfl
theorem kX2_add_25 : Cond.fieldLink RX2 25 "SecretBroker$Leased" "made" "I" ∈ wsX2_add := by decide +kernel
theorem kX2_add_9 : Cond.fieldLink RX2 9 "SecretBroker$Leased" "beginnings" "[I" ∈ wsX2_add := by decide +kernel
theorem kX2_add_15 : Cond.fieldLink RX2 15 "SecretBroker$Leased" "ends" "[I" ∈ wsX2_add := by decide +kernel
theorem kX2_add_18 : Cond.fieldLink RX2 18 "SecretBroker$Leased" "bounds" "[I" ∈ wsX2_add := by decide +kernel
theorem kX2_add_21 : Cond.fieldLink RX2 21 "SecretBroker$Leased" "on" "[Z" ∈ wsX2_add := by decide +kernel
theorem kX2_add_29 : Cond.fieldLink RX2 29 "SecretBroker$Leased" "living" "I" ∈ wsX2_add := by decide +kernel
theorem hX2_add_X6 : ∀ w ∈ wsX60, w ∈ wsX2_add := by decide +kernel
set_option maxHeartbeats 4000000 in
set_option maxRecDepth 100000 in
theorem c_X2_add_6 (l : Launch) (D : va_G) (cI cJ cZ : ClassId) (a6 : Nat → Nat) (T : SS) (x1 : Int32) (x2 : Int32) (x3 : Int32) (u : Int32 × SS) (hF : f_X2_add T x1 x2 x3 = some u) : zM l yX2_add wsX2_add ({ frames := 0, cells := 0, slots := 0, locals := 0 }) D (zTy cI cJ cZ) [.ref (a6 0), .int x1, .int x2, .int x3] (zwX6 cI cJ cZ a6 T) (some (.int u.1)) (zwX6 cI cJ cZ a6 u.2) := by
  refine z_body (cc := cX2_add) (maxL := 4) (rty := (some .int)) (own := RX2) (lv := [(0, .ref (a6 0)), (1, .int x1), (2, .int x2), (3, .int x3)]) (by decide +kernel) rfl rfl (Nat.le_of_ble_eq_true rfl) rfl (fun p e s m args below meth c A C => ?_)
  refine z_aload_n C dX2_add_0 rfl 0 rfl ?_
  refine z_get (ref := "SecretBroker$Leased") (v := .int (T 4 0)) C hX2_add_X6 0 rfl rfl 4 (by decide) kX2_add_25 (fun _ h9 => h9) rfl dX2_add_1 ?_
  refine z_sipush (v := 513) C dX2_add_4 (by decide) ?_
  refine z_icmp_lt (tgt := 12) C dX2_add_7 (by decide) (fun c1 => ?_) (fun c1 => ?_)
  · have hF := zif hF c1
    refine z_aload_n C dX2_add_12 rfl 0 rfl ?_
    refine z_get (ref := "SecretBroker$Leased") (v := .ref (a6 1)) C hX2_add_X6 0 rfl rfl 0 (by decide) kX2_add_9 (fun _ h9 => h9) rfl dX2_add_13 ?_
    refine z_aload_n C dX2_add_16 rfl 0 rfl ?_
    refine z_get (ref := "SecretBroker$Leased") (v := .int (T 4 0)) C hX2_add_X6 0 rfl rfl 4 (by decide) kX2_add_25 (fun _ h9 => h9) rfl dX2_add_17 ?_
    refine z_iload_n C dX2_add_20 rfl 1 rfl ?_
    obtain ⟨g2, hF⟩ := zix_some hF
    refine z_iast (ws' := (zwX6 cI cJ cZ a6 (za T 0 (T 4 0) x1))) C g2 1 rfl rfl dX2_add_21 (za_row T 0 (T 4 0) x1) (zr_X6_0 cI cJ cZ a6 T (T 4 0) x1) ?_
    refine z_aload_n C dX2_add_22 rfl 0 rfl ?_
    refine z_get (ref := "SecretBroker$Leased") (v := .ref (a6 2)) C hX2_add_X6 0 rfl rfl 1 (by decide) kX2_add_15 (fun _ h9 => h9) rfl dX2_add_23 ?_
    refine z_aload_n C dX2_add_26 rfl 0 rfl ?_
    refine z_get (ref := "SecretBroker$Leased") (v := .int (T 4 0)) C hX2_add_X6 0 rfl rfl 4 (by decide) kX2_add_25 (fun _ h9 => h9) rfl dX2_add_27 ?_
    refine z_iload_n C dX2_add_30 rfl 2 rfl ?_
    obtain ⟨g3, hF⟩ := zix_some hF
    refine z_iast (ws' := (zwX6 cI cJ cZ a6 (za (za T 0 (T 4 0) x1) 1 (T 4 0) x2))) C g3 2 rfl rfl dX2_add_31 (za_row (za T 0 (T 4 0) x1) 1 (T 4 0) x2) (zr_X6_1 cI cJ cZ a6 (za T 0 (T 4 0) x1) (T 4 0) x2) ?_
    refine z_aload_n C dX2_add_32 rfl 0 rfl ?_
    refine z_get (ref := "SecretBroker$Leased") (v := .ref (a6 3)) C hX2_add_X6 0 rfl rfl 2 (by decide) kX2_add_18 (fun _ h9 => h9) rfl dX2_add_33 ?_
    refine z_aload_n C dX2_add_36 rfl 0 rfl ?_
    refine z_get (ref := "SecretBroker$Leased") (v := .int (T 4 0)) C hX2_add_X6 0 rfl rfl 4 (by decide) kX2_add_25 (fun _ h9 => h9) rfl dX2_add_37 ?_
    refine z_iload_n C dX2_add_40 rfl 3 rfl ?_
    obtain ⟨g4, hF⟩ := zix_some hF
    refine z_iast (ws' := (zwX6 cI cJ cZ a6 (za (za (za T 0 (T 4 0) x1) 1 (T 4 0) x2) 2 (T 4 0) x3))) C g4 3 rfl rfl dX2_add_41 (za_row (za (za T 0 (T 4 0) x1) 1 (T 4 0) x2) 2 (T 4 0) x3) (zr_X6_2 cI cJ cZ a6 (za (za T 0 (T 4 0) x1) 1 (T 4 0) x2) (T 4 0) x3) ?_
    refine z_aload_n C dX2_add_42 rfl 0 rfl ?_
    refine z_get (ref := "SecretBroker$Leased") (v := .ref (a6 4)) C hX2_add_X6 0 rfl rfl 3 (by decide) kX2_add_21 (fun _ h9 => h9) rfl dX2_add_43 ?_
    refine z_aload_n C dX2_add_46 rfl 0 rfl ?_
    refine z_get (ref := "SecretBroker$Leased") (v := .int (T 4 0)) C hX2_add_X6 0 rfl rfl 4 (by decide) kX2_add_25 (fun _ h9 => h9) rfl dX2_add_47 ?_
    refine z_iconst (v := 1) C dX2_add_50 (by decide) ?_
    obtain ⟨g5, hF⟩ := zix_some hF
    refine z_zast (ws' := (zwX6 cI cJ cZ a6 (za (za (za (za T 0 (T 4 0) x1) 1 (T 4 0) x2) 2 (T 4 0) x3) 3 (T 4 0) (vp_nar .boolean 1)))) C g5 4 rfl rfl dX2_add_51 (za_row (za (za (za T 0 (T 4 0) x1) 1 (T 4 0) x2) 2 (T 4 0) x3) 3 (T 4 0) (vp_nar .boolean 1)) (zr_X6_3 cI cJ cZ a6 (za (za (za T 0 (T 4 0) x1) 1 (T 4 0) x2) 2 (T 4 0) x3) (T 4 0) (vp_nar .boolean 1)) ?_
    refine z_aload_n C dX2_add_52 rfl 0 rfl ?_
    refine z_dup C dX2_add_53 rfl ?_
    refine z_get (ref := "SecretBroker$Leased") (v := .int (T 5 0)) C hX2_add_X6 0 rfl rfl 5 (by decide) kX2_add_29 (fun _ h9 => h9) rfl dX2_add_54 ?_
    refine z_iconst (v := 1) C dX2_add_57 (by decide) ?_
    refine z_iadd C dX2_add_58 ?_
    refine z_put (ws' := (zwX6 cI cJ cZ a6 (zs (za (za (za (za T 0 (T 4 0) x1) 1 (T 4 0) x2) 2 (T 4 0) x3) 3 (T 4 0) (vp_nar .boolean 1)) 5 ((T 5 0) + 1)))) (ref := "SecretBroker$Leased") (ty := .int) C hX2_add_X6 tyX6 tyX6_ok nmX6 0 rfl rfl 5 (by decide) kX2_add_29 (fun _ h9 => h9) rfl (by decide +kernel) rfl rfl (Nat.le_of_ble_eq_true rfl) dX2_add_59 (zs_val (za (za (za (za T 0 (T 4 0) x1) 1 (T 4 0) x2) 2 (T 4 0) x3) 3 (T 4 0) (vp_nar .boolean 1)) 5 ((T 5 0) + 1)) (zf_X6_5 cI cJ cZ a6 (za (za (za (za T 0 (T 4 0) x1) 1 (T 4 0) x2) 2 (T 4 0) x3) 3 (T 4 0) (vp_nar .boolean 1)) ((T 5 0) + 1)) ?_
    refine z_aload_n C dX2_add_62 rfl 0 rfl ?_
    refine z_dup C dX2_add_63 rfl ?_
    refine z_get (ref := "SecretBroker$Leased") (v := .int (T 4 0)) C hX2_add_X6 0 rfl rfl 4 (by decide) kX2_add_25 (fun _ h9 => h9) rfl dX2_add_64 ?_
    refine z_iconst (v := 1) C dX2_add_67 (by decide) ?_
    refine z_iadd C dX2_add_68 ?_
    refine z_put (ws' := (zwX6 cI cJ cZ a6 (zs (zs (za (za (za (za T 0 (T 4 0) x1) 1 (T 4 0) x2) 2 (T 4 0) x3) 3 (T 4 0) (vp_nar .boolean 1)) 5 ((T 5 0) + 1)) 4 ((T 4 0) + 1)))) (ref := "SecretBroker$Leased") (ty := .int) C hX2_add_X6 tyX6 tyX6_ok nmX6 0 rfl rfl 4 (by decide) kX2_add_25 (fun _ h9 => h9) rfl (by decide +kernel) rfl rfl (Nat.le_of_ble_eq_true rfl) dX2_add_69 (zs_val (zs (za (za (za (za T 0 (T 4 0) x1) 1 (T 4 0) x2) 2 (T 4 0) x3) 3 (T 4 0) (vp_nar .boolean 1)) 5 ((T 5 0) + 1)) 4 ((T 4 0) + 1)) (zf_X6_4 cI cJ cZ a6 (zs (za (za (za (za T 0 (T 4 0) x1) 1 (T 4 0) x2) 2 (T 4 0) x3) 3 (T 4 0) (vp_nar .boolean 1)) 5 ((T 5 0) + 1)) ((T 4 0) + 1)) ?_
    refine z_aload_n C dX2_add_72 rfl 0 rfl ?_
    refine z_get (ref := "SecretBroker$Leased") (v := .int ((zs (zs (za (za (za (za T 0 (T 4 0) x1) 1 (T 4 0) x2) 2 (T 4 0) x3) 3 (T 4 0) (vp_nar .boolean 1)) 5 ((T 5 0) + 1)) 4 ((T 4 0) + 1)) 4 0)) C hX2_add_X6 0 rfl rfl 4 (by decide) kX2_add_25 (fun _ h9 => h9) rfl dX2_add_73 ?_
    refine z_iconst (v := 1) C dX2_add_76 (by decide) ?_
    refine z_isub C dX2_add_77 ?_
    have hu := Option.some.inj hF
    subst hu
    exact z_iret C dX2_add_78 rfl rfl
  · have hF := zelse hF c1
    refine z_iconst (v := (-1)) C dX2_add_10 (by decide) ?_
    have hu := Option.some.inj hF
    subst hu
    exact z_iret C dX2_add_11 rfl rfl
theorem hX2_add_X1 : ∀ w ∈ wsX10, w ∈ wsX2_add := by decide +kernel
set_option maxHeartbeats 4000000 in
set_option maxRecDepth 100000 in
theorem c_X2_add_1 (l : Launch) (D : va_G) (cI cJ cZ : ClassId) (a1 : Nat → Nat) (K : SS) (x1 : Int32) (x2 : Int32) (x3 : Int32) (u : Int32 × SS) (hF : f_X2_add K x1 x2 x3 = some u) : zM l yX2_add wsX2_add ({ frames := 0, cells := 0, slots := 0, locals := 0 }) D (zTy cI cJ cZ) [.ref (a1 0), .int x1, .int x2, .int x3] (zwX1 cI cJ cZ a1 K) (some (.int u.1)) (zwX1 cI cJ cZ a1 u.2) := by
  refine z_body (cc := cX2_add) (maxL := 4) (rty := (some .int)) (own := RX2) (lv := [(0, .ref (a1 0)), (1, .int x1), (2, .int x2), (3, .int x3)]) (by decide +kernel) rfl rfl (Nat.le_of_ble_eq_true rfl) rfl (fun p e s m args below meth c A C => ?_)
  refine z_aload_n C dX2_add_0 rfl 0 rfl ?_
  refine z_get (ref := "SecretBroker$Leased") (v := .int (K 4 0)) C hX2_add_X1 0 rfl rfl 4 (by decide) kX2_add_25 (fun _ h9 => h9) rfl dX2_add_1 ?_
  refine z_sipush (v := 513) C dX2_add_4 (by decide) ?_
  refine z_icmp_lt (tgt := 12) C dX2_add_7 (by decide) (fun c1 => ?_) (fun c1 => ?_)
  · have hF := zif hF c1
    refine z_aload_n C dX2_add_12 rfl 0 rfl ?_
    refine z_get (ref := "SecretBroker$Leased") (v := .ref (a1 1)) C hX2_add_X1 0 rfl rfl 0 (by decide) kX2_add_9 (fun _ h9 => h9) rfl dX2_add_13 ?_
    refine z_aload_n C dX2_add_16 rfl 0 rfl ?_
    refine z_get (ref := "SecretBroker$Leased") (v := .int (K 4 0)) C hX2_add_X1 0 rfl rfl 4 (by decide) kX2_add_25 (fun _ h9 => h9) rfl dX2_add_17 ?_
    refine z_iload_n C dX2_add_20 rfl 1 rfl ?_
    obtain ⟨g2, hF⟩ := zix_some hF
    refine z_iast (ws' := (zwX1 cI cJ cZ a1 (za K 0 (K 4 0) x1))) C g2 1 rfl rfl dX2_add_21 (za_row K 0 (K 4 0) x1) (zr_X1_0 cI cJ cZ a1 K (K 4 0) x1) ?_
    refine z_aload_n C dX2_add_22 rfl 0 rfl ?_
    refine z_get (ref := "SecretBroker$Leased") (v := .ref (a1 2)) C hX2_add_X1 0 rfl rfl 1 (by decide) kX2_add_15 (fun _ h9 => h9) rfl dX2_add_23 ?_
    refine z_aload_n C dX2_add_26 rfl 0 rfl ?_
    refine z_get (ref := "SecretBroker$Leased") (v := .int (K 4 0)) C hX2_add_X1 0 rfl rfl 4 (by decide) kX2_add_25 (fun _ h9 => h9) rfl dX2_add_27 ?_
    refine z_iload_n C dX2_add_30 rfl 2 rfl ?_
    obtain ⟨g3, hF⟩ := zix_some hF
    refine z_iast (ws' := (zwX1 cI cJ cZ a1 (za (za K 0 (K 4 0) x1) 1 (K 4 0) x2))) C g3 2 rfl rfl dX2_add_31 (za_row (za K 0 (K 4 0) x1) 1 (K 4 0) x2) (zr_X1_1 cI cJ cZ a1 (za K 0 (K 4 0) x1) (K 4 0) x2) ?_
    refine z_aload_n C dX2_add_32 rfl 0 rfl ?_
    refine z_get (ref := "SecretBroker$Leased") (v := .ref (a1 3)) C hX2_add_X1 0 rfl rfl 2 (by decide) kX2_add_18 (fun _ h9 => h9) rfl dX2_add_33 ?_
    refine z_aload_n C dX2_add_36 rfl 0 rfl ?_
    refine z_get (ref := "SecretBroker$Leased") (v := .int (K 4 0)) C hX2_add_X1 0 rfl rfl 4 (by decide) kX2_add_25 (fun _ h9 => h9) rfl dX2_add_37 ?_
    refine z_iload_n C dX2_add_40 rfl 3 rfl ?_
    obtain ⟨g4, hF⟩ := zix_some hF
    refine z_iast (ws' := (zwX1 cI cJ cZ a1 (za (za (za K 0 (K 4 0) x1) 1 (K 4 0) x2) 2 (K 4 0) x3))) C g4 3 rfl rfl dX2_add_41 (za_row (za (za K 0 (K 4 0) x1) 1 (K 4 0) x2) 2 (K 4 0) x3) (zr_X1_2 cI cJ cZ a1 (za (za K 0 (K 4 0) x1) 1 (K 4 0) x2) (K 4 0) x3) ?_
    refine z_aload_n C dX2_add_42 rfl 0 rfl ?_
    refine z_get (ref := "SecretBroker$Leased") (v := .ref (a1 4)) C hX2_add_X1 0 rfl rfl 3 (by decide) kX2_add_21 (fun _ h9 => h9) rfl dX2_add_43 ?_
    refine z_aload_n C dX2_add_46 rfl 0 rfl ?_
    refine z_get (ref := "SecretBroker$Leased") (v := .int (K 4 0)) C hX2_add_X1 0 rfl rfl 4 (by decide) kX2_add_25 (fun _ h9 => h9) rfl dX2_add_47 ?_
    refine z_iconst (v := 1) C dX2_add_50 (by decide) ?_
    obtain ⟨g5, hF⟩ := zix_some hF
    refine z_zast (ws' := (zwX1 cI cJ cZ a1 (za (za (za (za K 0 (K 4 0) x1) 1 (K 4 0) x2) 2 (K 4 0) x3) 3 (K 4 0) (vp_nar .boolean 1)))) C g5 4 rfl rfl dX2_add_51 (za_row (za (za (za K 0 (K 4 0) x1) 1 (K 4 0) x2) 2 (K 4 0) x3) 3 (K 4 0) (vp_nar .boolean 1)) (zr_X1_3 cI cJ cZ a1 (za (za (za K 0 (K 4 0) x1) 1 (K 4 0) x2) 2 (K 4 0) x3) (K 4 0) (vp_nar .boolean 1)) ?_
    refine z_aload_n C dX2_add_52 rfl 0 rfl ?_
    refine z_dup C dX2_add_53 rfl ?_
    refine z_get (ref := "SecretBroker$Leased") (v := .int (K 5 0)) C hX2_add_X1 0 rfl rfl 5 (by decide) kX2_add_29 (fun _ h9 => h9) rfl dX2_add_54 ?_
    refine z_iconst (v := 1) C dX2_add_57 (by decide) ?_
    refine z_iadd C dX2_add_58 ?_
    refine z_put (ws' := (zwX1 cI cJ cZ a1 (zs (za (za (za (za K 0 (K 4 0) x1) 1 (K 4 0) x2) 2 (K 4 0) x3) 3 (K 4 0) (vp_nar .boolean 1)) 5 ((K 5 0) + 1)))) (ref := "SecretBroker$Leased") (ty := .int) C hX2_add_X1 tyX1 tyX1_ok nmX1 0 rfl rfl 5 (by decide) kX2_add_29 (fun _ h9 => h9) rfl (by decide +kernel) rfl rfl (Nat.le_of_ble_eq_true rfl) dX2_add_59 (zs_val (za (za (za (za K 0 (K 4 0) x1) 1 (K 4 0) x2) 2 (K 4 0) x3) 3 (K 4 0) (vp_nar .boolean 1)) 5 ((K 5 0) + 1)) (zf_X1_5 cI cJ cZ a1 (za (za (za (za K 0 (K 4 0) x1) 1 (K 4 0) x2) 2 (K 4 0) x3) 3 (K 4 0) (vp_nar .boolean 1)) ((K 5 0) + 1)) ?_
    refine z_aload_n C dX2_add_62 rfl 0 rfl ?_
    refine z_dup C dX2_add_63 rfl ?_
    refine z_get (ref := "SecretBroker$Leased") (v := .int (K 4 0)) C hX2_add_X1 0 rfl rfl 4 (by decide) kX2_add_25 (fun _ h9 => h9) rfl dX2_add_64 ?_
    refine z_iconst (v := 1) C dX2_add_67 (by decide) ?_
    refine z_iadd C dX2_add_68 ?_
    refine z_put (ws' := (zwX1 cI cJ cZ a1 (zs (zs (za (za (za (za K 0 (K 4 0) x1) 1 (K 4 0) x2) 2 (K 4 0) x3) 3 (K 4 0) (vp_nar .boolean 1)) 5 ((K 5 0) + 1)) 4 ((K 4 0) + 1)))) (ref := "SecretBroker$Leased") (ty := .int) C hX2_add_X1 tyX1 tyX1_ok nmX1 0 rfl rfl 4 (by decide) kX2_add_25 (fun _ h9 => h9) rfl (by decide +kernel) rfl rfl (Nat.le_of_ble_eq_true rfl) dX2_add_69 (zs_val (zs (za (za (za (za K 0 (K 4 0) x1) 1 (K 4 0) x2) 2 (K 4 0) x3) 3 (K 4 0) (vp_nar .boolean 1)) 5 ((K 5 0) + 1)) 4 ((K 4 0) + 1)) (zf_X1_4 cI cJ cZ a1 (zs (za (za (za (za K 0 (K 4 0) x1) 1 (K 4 0) x2) 2 (K 4 0) x3) 3 (K 4 0) (vp_nar .boolean 1)) 5 ((K 5 0) + 1)) ((K 4 0) + 1)) ?_
    refine z_aload_n C dX2_add_72 rfl 0 rfl ?_
    refine z_get (ref := "SecretBroker$Leased") (v := .int ((zs (zs (za (za (za (za K 0 (K 4 0) x1) 1 (K 4 0) x2) 2 (K 4 0) x3) 3 (K 4 0) (vp_nar .boolean 1)) 5 ((K 5 0) + 1)) 4 ((K 4 0) + 1)) 4 0)) C hX2_add_X1 0 rfl rfl 4 (by decide) kX2_add_25 (fun _ h9 => h9) rfl dX2_add_73 ?_
    refine z_iconst (v := 1) C dX2_add_76 (by decide) ?_
    refine z_isub C dX2_add_77 ?_
    have hu := Option.some.inj hF
    subst hu
    exact z_iret C dX2_add_78 rfl rfl
  · have hF := zelse hF c1
    refine z_iconst (v := (-1)) C dX2_add_10 (by decide) ?_
    have hu := Option.some.inj hF
    subst hu
    exact z_iret C dX2_add_11 rfl rfl
theorem kX2_prolong_9 : Cond.fieldLink RX2 9 "SecretBroker$Leased" "beginnings" "[I" ∈ wsX2_prolong := by decide +kernel
theorem kX2_prolong_18 : Cond.fieldLink RX2 18 "SecretBroker$Leased" "bounds" "[I" ∈ wsX2_prolong := by decide +kernel
theorem kX2_prolong_15 : Cond.fieldLink RX2 15 "SecretBroker$Leased" "ends" "[I" ∈ wsX2_prolong := by decide +kernel
theorem kX2_prolong_36 : Cond.methodLink RX2 36 Lib.Math.min.name ∈ wsX2_prolong := by decide +kernel
theorem kX2_prolong_90000 : Cond.static Lib.Math.min.name ∈ wsX2_prolong := by decide +kernel
theorem kX2_prolong_90002 : Cond.initialized "java/lang/Math" ∈ wsX2_prolong := by decide +kernel
theorem kX2_prolong_90004 : Cond.code Lib.Math.min.name Lib.Math.min.code 2 (some .int) ∈ wsX2_prolong := by decide +kernel
theorem kX2_prolong_42 : Cond.methodLink RX2 42 Lib.Math.max.name ∈ wsX2_prolong := by decide +kernel
theorem kX2_prolong_90001 : Cond.static Lib.Math.max.name ∈ wsX2_prolong := by decide +kernel
theorem kX2_prolong_90005 : Cond.code Lib.Math.max.name Lib.Math.max.code 2 (some .int) ∈ wsX2_prolong := by decide +kernel
theorem hX2_prolong_X6 : ∀ w ∈ wsX60, w ∈ wsX2_prolong := by decide +kernel
set_option maxHeartbeats 4000000 in
set_option maxRecDepth 100000 in
theorem c_X2_prolong_6 (l : Launch) (D : va_G) (cI cJ cZ : ClassId) (a6 : Nat → Nat) (T : SS) (x1 : Int32) (x2 : Int32) (x3 : Int32) (u : SS) (hF : f_X2_prolong T x1 x2 x3 = some u) : zM l yX2_prolong wsX2_prolong ({ frames := 1, cells := 0, slots := 0, locals := 21 }) D (zTy cI cJ cZ) [.ref (a6 0), .int x1, .int x2, .int x3] (zwX6 cI cJ cZ a6 T) none (zwX6 cI cJ cZ a6 u) := by
  refine z_body (cc := cX2_prolong) (maxL := 5) (rty := none) (own := RX2) (lv := [(0, .ref (a6 0)), (1, .int x1), (2, .int x2), (3, .int x3)]) (by decide +kernel) rfl rfl (Nat.le_of_ble_eq_true rfl) rfl (fun p e s m args below meth c A C => ?_)
  refine z_aload_n C dX2_prolong_0 rfl 0 rfl ?_
  refine z_iload_n C dX2_prolong_1 rfl 1 rfl ?_
  obtain ⟨r1, er1, hF⟩ := zbd hF
  refine z_callU (n := 1) (As := [.int x1]) (ws' := (zwX6 cI cJ cZ a6 T)) C (c_X2_has_6 l D cI cJ cZ a6 T x1 r1 er1) gX2_prolong_X2_has_u32X6 rfl rfl rfl rfl (by decide +kernel) ⟨Nat.le_of_ble_eq_true rfl, Nat.le_of_ble_eq_true rfl⟩ ⟨Nat.zero_le _, Nat.zero_le _⟩ 0 rfl rfl [] [] rfl rfl rfl rfl (Nat.le_of_ble_eq_true rfl) dX2_prolong_2 ?_
  refine z_if_eq (tgt := 46) C dX2_prolong_5 (by decide) (fun c2 => ?_) (fun c2 => ?_)
  · have hF := zif hF c2
    have hu := Option.some.inj hF
    subst hu
    exact z_vret C dX2_prolong_46 rfl
  · have hF := zelse hF c2
    refine z_aload_n C dX2_prolong_8 rfl 0 rfl ?_
    refine z_get (ref := "SecretBroker$Leased") (v := .ref (a6 1)) C hX2_prolong_X6 0 rfl rfl 0 (by decide) kX2_prolong_9 (fun _ h9 => h9) rfl dX2_prolong_9 ?_
    refine z_iload_n C dX2_prolong_12 rfl 1 rfl ?_
    obtain ⟨g3, hF⟩ := zix_some hF
    refine z_iald (v := ((T 0) x1.toNatClampNeg)) C g3 1 rfl rfl rfl dX2_prolong_13 ?_
    refine z_aload_n C dX2_prolong_14 rfl 0 rfl ?_
    refine z_get (ref := "SecretBroker$Leased") (v := .ref (a6 3)) C hX2_prolong_X6 0 rfl rfl 2 (by decide) kX2_prolong_18 (fun _ h9 => h9) rfl dX2_prolong_15 ?_
    refine z_iload_n C dX2_prolong_18 rfl 1 rfl ?_
    obtain ⟨g4, hF⟩ := zix_some hF
    refine z_iald (v := ((T 2) x1.toNatClampNeg)) C g4 3 rfl rfl rfl dX2_prolong_19 ?_
    refine z_iadd C dX2_prolong_20 ?_
    refine z_istore (lv' := [(4, .int (((T 0) x1.toNatClampNeg) + ((T 2) x1.toNatClampNeg))), (0, .ref (a6 0)), (1, .int x1), (2, .int x2), (3, .int x3)]) C dX2_prolong_21 (by decide) rfl ?_
    refine z_aload_n C dX2_prolong_23 rfl 1 rfl ?_
    refine z_get (ref := "SecretBroker$Leased") (v := .ref (a6 2)) C hX2_prolong_X6 0 rfl rfl 1 (by decide) kX2_prolong_15 (fun _ h9 => h9) rfl dX2_prolong_24 ?_
    refine z_iload_n C dX2_prolong_27 rfl 2 rfl ?_
    refine z_aload_n C dX2_prolong_28 rfl 1 rfl ?_
    refine z_get (ref := "SecretBroker$Leased") (v := .ref (a6 2)) C hX2_prolong_X6 0 rfl rfl 1 (by decide) kX2_prolong_15 (fun _ h9 => h9) rfl dX2_prolong_29 ?_
    refine z_iload_n C dX2_prolong_32 rfl 2 rfl ?_
    obtain ⟨g5, hF⟩ := zix_some hF
    refine z_iald (v := ((T 1) x1.toNatClampNeg)) C g5 2 rfl rfl rfl dX2_prolong_33 ?_
    refine z_iload_n C dX2_prolong_34 rfl 3 rfl ?_
    refine z_iload_n C dX2_prolong_35 rfl 4 rfl ?_
    refine z_iadd C dX2_prolong_36 ?_
    refine z_iload C dX2_prolong_37 0 rfl ?_
    refine z_mmin C kX2_prolong_36 kX2_prolong_90000 kX2_prolong_90002 kX2_prolong_90004 (Nat.le_of_ble_eq_true rfl) (Nat.le_of_ble_eq_true rfl) ⟨Nat.zero_le _, Nat.zero_le _⟩ dX2_prolong_39 ?_
    refine z_mmax C kX2_prolong_42 kX2_prolong_90001 kX2_prolong_90002 kX2_prolong_90005 (Nat.le_of_ble_eq_true rfl) (Nat.le_of_ble_eq_true rfl) ⟨Nat.zero_le _, Nat.zero_le _⟩ dX2_prolong_42 ?_
    obtain ⟨g6, hF⟩ := zix_some hF
    refine z_iast (ws' := (zwX6 cI cJ cZ a6 (za T 1 x1 (if ((T 1) x1.toNatClampNeg) < (if (((T 0) x1.toNatClampNeg) + ((T 2) x1.toNatClampNeg)) < (x2 + x3) then (((T 0) x1.toNatClampNeg) + ((T 2) x1.toNatClampNeg)) else (x2 + x3)) then (if (((T 0) x1.toNatClampNeg) + ((T 2) x1.toNatClampNeg)) < (x2 + x3) then (((T 0) x1.toNatClampNeg) + ((T 2) x1.toNatClampNeg)) else (x2 + x3)) else ((T 1) x1.toNatClampNeg))))) C g6 2 rfl rfl dX2_prolong_45 (za_row T 1 x1 (if ((T 1) x1.toNatClampNeg) < (if (((T 0) x1.toNatClampNeg) + ((T 2) x1.toNatClampNeg)) < (x2 + x3) then (((T 0) x1.toNatClampNeg) + ((T 2) x1.toNatClampNeg)) else (x2 + x3)) then (if (((T 0) x1.toNatClampNeg) + ((T 2) x1.toNatClampNeg)) < (x2 + x3) then (((T 0) x1.toNatClampNeg) + ((T 2) x1.toNatClampNeg)) else (x2 + x3)) else ((T 1) x1.toNatClampNeg))) (zr_X6_1 cI cJ cZ a6 T x1 (if ((T 1) x1.toNatClampNeg) < (if (((T 0) x1.toNatClampNeg) + ((T 2) x1.toNatClampNeg)) < (x2 + x3) then (((T 0) x1.toNatClampNeg) + ((T 2) x1.toNatClampNeg)) else (x2 + x3)) then (if (((T 0) x1.toNatClampNeg) + ((T 2) x1.toNatClampNeg)) < (x2 + x3) then (((T 0) x1.toNatClampNeg) + ((T 2) x1.toNatClampNeg)) else (x2 + x3)) else ((T 1) x1.toNatClampNeg))) ?_
    have hu := Option.some.inj hF
    subst hu
    exact z_vret C dX2_prolong_46 rfl
theorem hX2_prolong_X1 : ∀ w ∈ wsX10, w ∈ wsX2_prolong := by decide +kernel
set_option maxHeartbeats 4000000 in
set_option maxRecDepth 100000 in
theorem c_X2_prolong_1 (l : Launch) (D : va_G) (cI cJ cZ : ClassId) (a1 : Nat → Nat) (K : SS) (x1 : Int32) (x2 : Int32) (x3 : Int32) (u : SS) (hF : f_X2_prolong K x1 x2 x3 = some u) : zM l yX2_prolong wsX2_prolong ({ frames := 1, cells := 0, slots := 0, locals := 21 }) D (zTy cI cJ cZ) [.ref (a1 0), .int x1, .int x2, .int x3] (zwX1 cI cJ cZ a1 K) none (zwX1 cI cJ cZ a1 u) := by
  refine z_body (cc := cX2_prolong) (maxL := 5) (rty := none) (own := RX2) (lv := [(0, .ref (a1 0)), (1, .int x1), (2, .int x2), (3, .int x3)]) (by decide +kernel) rfl rfl (Nat.le_of_ble_eq_true rfl) rfl (fun p e s m args below meth c A C => ?_)
  refine z_aload_n C dX2_prolong_0 rfl 0 rfl ?_
  refine z_iload_n C dX2_prolong_1 rfl 1 rfl ?_
  obtain ⟨r1, er1, hF⟩ := zbd hF
  refine z_callU (n := 1) (As := [.int x1]) (ws' := (zwX1 cI cJ cZ a1 K)) C (c_X2_has_1 l D cI cJ cZ a1 K x1 r1 er1) gX2_prolong_X2_has_u32X1 rfl rfl rfl rfl (by decide +kernel) ⟨Nat.le_of_ble_eq_true rfl, Nat.le_of_ble_eq_true rfl⟩ ⟨Nat.zero_le _, Nat.zero_le _⟩ 0 rfl rfl [] [] rfl rfl rfl rfl (Nat.le_of_ble_eq_true rfl) dX2_prolong_2 ?_
  refine z_if_eq (tgt := 46) C dX2_prolong_5 (by decide) (fun c2 => ?_) (fun c2 => ?_)
  · have hF := zif hF c2
    have hu := Option.some.inj hF
    subst hu
    exact z_vret C dX2_prolong_46 rfl
  · have hF := zelse hF c2
    refine z_aload_n C dX2_prolong_8 rfl 0 rfl ?_
    refine z_get (ref := "SecretBroker$Leased") (v := .ref (a1 1)) C hX2_prolong_X1 0 rfl rfl 0 (by decide) kX2_prolong_9 (fun _ h9 => h9) rfl dX2_prolong_9 ?_
    refine z_iload_n C dX2_prolong_12 rfl 1 rfl ?_
    obtain ⟨g3, hF⟩ := zix_some hF
    refine z_iald (v := ((K 0) x1.toNatClampNeg)) C g3 1 rfl rfl rfl dX2_prolong_13 ?_
    refine z_aload_n C dX2_prolong_14 rfl 0 rfl ?_
    refine z_get (ref := "SecretBroker$Leased") (v := .ref (a1 3)) C hX2_prolong_X1 0 rfl rfl 2 (by decide) kX2_prolong_18 (fun _ h9 => h9) rfl dX2_prolong_15 ?_
    refine z_iload_n C dX2_prolong_18 rfl 1 rfl ?_
    obtain ⟨g4, hF⟩ := zix_some hF
    refine z_iald (v := ((K 2) x1.toNatClampNeg)) C g4 3 rfl rfl rfl dX2_prolong_19 ?_
    refine z_iadd C dX2_prolong_20 ?_
    refine z_istore (lv' := [(4, .int (((K 0) x1.toNatClampNeg) + ((K 2) x1.toNatClampNeg))), (0, .ref (a1 0)), (1, .int x1), (2, .int x2), (3, .int x3)]) C dX2_prolong_21 (by decide) rfl ?_
    refine z_aload_n C dX2_prolong_23 rfl 1 rfl ?_
    refine z_get (ref := "SecretBroker$Leased") (v := .ref (a1 2)) C hX2_prolong_X1 0 rfl rfl 1 (by decide) kX2_prolong_15 (fun _ h9 => h9) rfl dX2_prolong_24 ?_
    refine z_iload_n C dX2_prolong_27 rfl 2 rfl ?_
    refine z_aload_n C dX2_prolong_28 rfl 1 rfl ?_
    refine z_get (ref := "SecretBroker$Leased") (v := .ref (a1 2)) C hX2_prolong_X1 0 rfl rfl 1 (by decide) kX2_prolong_15 (fun _ h9 => h9) rfl dX2_prolong_29 ?_
    refine z_iload_n C dX2_prolong_32 rfl 2 rfl ?_
    obtain ⟨g5, hF⟩ := zix_some hF
    refine z_iald (v := ((K 1) x1.toNatClampNeg)) C g5 2 rfl rfl rfl dX2_prolong_33 ?_
    refine z_iload_n C dX2_prolong_34 rfl 3 rfl ?_
    refine z_iload_n C dX2_prolong_35 rfl 4 rfl ?_
    refine z_iadd C dX2_prolong_36 ?_
    refine z_iload C dX2_prolong_37 0 rfl ?_
    refine z_mmin C kX2_prolong_36 kX2_prolong_90000 kX2_prolong_90002 kX2_prolong_90004 (Nat.le_of_ble_eq_true rfl) (Nat.le_of_ble_eq_true rfl) ⟨Nat.zero_le _, Nat.zero_le _⟩ dX2_prolong_39 ?_
    refine z_mmax C kX2_prolong_42 kX2_prolong_90001 kX2_prolong_90002 kX2_prolong_90005 (Nat.le_of_ble_eq_true rfl) (Nat.le_of_ble_eq_true rfl) ⟨Nat.zero_le _, Nat.zero_le _⟩ dX2_prolong_42 ?_
    obtain ⟨g6, hF⟩ := zix_some hF
    refine z_iast (ws' := (zwX1 cI cJ cZ a1 (za K 1 x1 (if ((K 1) x1.toNatClampNeg) < (if (((K 0) x1.toNatClampNeg) + ((K 2) x1.toNatClampNeg)) < (x2 + x3) then (((K 0) x1.toNatClampNeg) + ((K 2) x1.toNatClampNeg)) else (x2 + x3)) then (if (((K 0) x1.toNatClampNeg) + ((K 2) x1.toNatClampNeg)) < (x2 + x3) then (((K 0) x1.toNatClampNeg) + ((K 2) x1.toNatClampNeg)) else (x2 + x3)) else ((K 1) x1.toNatClampNeg))))) C g6 2 rfl rfl dX2_prolong_45 (za_row K 1 x1 (if ((K 1) x1.toNatClampNeg) < (if (((K 0) x1.toNatClampNeg) + ((K 2) x1.toNatClampNeg)) < (x2 + x3) then (((K 0) x1.toNatClampNeg) + ((K 2) x1.toNatClampNeg)) else (x2 + x3)) then (if (((K 0) x1.toNatClampNeg) + ((K 2) x1.toNatClampNeg)) < (x2 + x3) then (((K 0) x1.toNatClampNeg) + ((K 2) x1.toNatClampNeg)) else (x2 + x3)) else ((K 1) x1.toNatClampNeg))) (zr_X1_1 cI cJ cZ a1 K x1 (if ((K 1) x1.toNatClampNeg) < (if (((K 0) x1.toNatClampNeg) + ((K 2) x1.toNatClampNeg)) < (x2 + x3) then (((K 0) x1.toNatClampNeg) + ((K 2) x1.toNatClampNeg)) else (x2 + x3)) then (if (((K 0) x1.toNatClampNeg) + ((K 2) x1.toNatClampNeg)) < (x2 + x3) then (((K 0) x1.toNatClampNeg) + ((K 2) x1.toNatClampNeg)) else (x2 + x3)) else ((K 1) x1.toNatClampNeg))) ?_
    have hu := Option.some.inj hF
    subst hu
    exact z_vret C dX2_prolong_46 rfl
theorem hX2_end_X6 : ∀ w ∈ wsX60, w ∈ wsX2_end := by decide +kernel
set_option maxHeartbeats 4000000 in
set_option maxRecDepth 100000 in
theorem c_X2_end_6 (l : Launch) (D : va_G) (cI cJ cZ : ClassId) (a6 : Nat → Nat) (T : SS) (x1 : Int32) (u : Int32 × SS) (hF : f_X2_end T x1 = some u) : zM l yX2_end wsX2_end ({ frames := 2, cells := 0, slots := 0, locals := 42 }) D (zTy cI cJ cZ) [.ref (a6 0), .int x1] (zwX6 cI cJ cZ a6 T) (some (.int u.1)) (zwX6 cI cJ cZ a6 u.2) := by
  refine z_body (cc := cX2_end) (maxL := 2) (rty := (some .int)) (own := RX2) (lv := [(0, .ref (a6 0)), (1, .int x1)]) (by decide +kernel) rfl rfl (Nat.le_of_ble_eq_true rfl) rfl (fun p e s m args below meth c A C => ?_)
  refine z_aload_n C dX2_end_0 rfl 0 rfl ?_
  refine z_iload_n C dX2_end_1 rfl 1 rfl ?_
  obtain ⟨r1, er1, hF⟩ := zbd hF
  refine z_callU (n := 1) (As := [.int x1]) (ws' := (zwX6 cI cJ cZ a6 T)) C (c_X2_isOn_6 l D cI cJ cZ a6 T x1 r1 er1) gX2_end_X2_isOn_u45X6 rfl rfl rfl rfl (by decide +kernel) ⟨Nat.le_of_ble_eq_true rfl, Nat.le_of_ble_eq_true rfl⟩ ⟨Nat.zero_le _, Nat.zero_le _⟩ 0 rfl rfl [] [] rfl rfl rfl rfl (Nat.le_of_ble_eq_true rfl) dX2_end_2 ?_
  refine z_if_ne (tgt := 10) C dX2_end_5 (by decide) (fun c2 => ?_) (fun c2 => ?_)
  · have hF := zelse hF c2
    refine z_aload_n C dX2_end_10 rfl 0 rfl ?_
    refine z_get (ref := "SecretBroker$Leased") (v := .ref (a6 4)) C hX2_end_X6 0 rfl rfl 3 (by decide) kX2_end_21 (fun _ h9 => h9) rfl dX2_end_11 ?_
    refine z_iload_n C dX2_end_14 rfl 1 rfl ?_
    refine z_iconst (v := 0) C dX2_end_15 (by decide) ?_
    obtain ⟨g3, hF⟩ := zix_some hF
    refine z_zast (ws' := (zwX6 cI cJ cZ a6 (za T 3 x1 (vp_nar .boolean 0)))) C g3 4 rfl rfl dX2_end_16 (za_row T 3 x1 (vp_nar .boolean 0)) (zr_X6_3 cI cJ cZ a6 T x1 (vp_nar .boolean 0)) ?_
    refine z_aload_n C dX2_end_17 rfl 0 rfl ?_
    refine z_dup C dX2_end_18 rfl ?_
    refine z_get (ref := "SecretBroker$Leased") (v := .int (T 5 0)) C hX2_end_X6 0 rfl rfl 5 (by decide) kX2_end_29 (fun _ h9 => h9) rfl dX2_end_19 ?_
    refine z_iconst (v := 1) C dX2_end_22 (by decide) ?_
    refine z_isub C dX2_end_23 ?_
    refine z_put (ws' := (zwX6 cI cJ cZ a6 (zs (za T 3 x1 (vp_nar .boolean 0)) 5 ((T 5 0) - 1)))) (ref := "SecretBroker$Leased") (ty := .int) C hX2_end_X6 tyX6 tyX6_ok nmX6 0 rfl rfl 5 (by decide) kX2_end_29 (fun _ h9 => h9) rfl (by decide +kernel) rfl rfl (Nat.le_of_ble_eq_true rfl) dX2_end_24 (zs_val (za T 3 x1 (vp_nar .boolean 0)) 5 ((T 5 0) - 1)) (zf_X6_5 cI cJ cZ a6 (za T 3 x1 (vp_nar .boolean 0)) ((T 5 0) - 1)) ?_
    refine z_iconst (v := 1) C dX2_end_27 (by decide) ?_
    have hu := Option.some.inj hF
    subst hu
    exact z_iret C dX2_end_28 rfl rfl
  · have hF := zif hF c2
    refine z_iconst (v := 0) C dX2_end_8 (by decide) ?_
    have hu := Option.some.inj hF
    subst hu
    exact z_iret C dX2_end_9 rfl rfl
theorem kX2_endByTime_25 : Cond.fieldLink RX2 25 "SecretBroker$Leased" "made" "I" ∈ wsX2_endByTime := by decide +kernel
theorem kX2_endByTime_15 : Cond.fieldLink RX2 15 "SecretBroker$Leased" "ends" "[I" ∈ wsX2_endByTime := by decide +kernel
theorem hX2_endByTime_X6 : ∀ w ∈ wsX60, w ∈ wsX2_endByTime := by decide +kernel
set_option maxHeartbeats 4000000 in
set_option maxRecDepth 100000 in
theorem c_X2_endByTime_6_j4 (l : Launch) (D : va_G) (cI cJ cZ : ClassId) (a6 : Nat → Nat) (T : SS) (u : Int32 × SS) {p : Program} {e : Env} {s : State} {m : MethodId} {args : Array Value} {below : List Frame} {meth : Method} {c : Code} {A : Nat → Prop} (C : zC p s m args meth c cX2_endByTime 4 (some .int) RX2 wsX2_endByTime D (zTy cI cJ cZ) A s.heap) : ∀ (n : Nat) (Tc : SS) (v1 : Int32) (v2 : Int32) (v3 : Int32), f_X2_endByTime_4 n Tc v1 v2 v3 = some u → zW p l e { frames := 3, cells := 0, slots := 0, locals := 63 } s m args below meth c 4 D A s.heap 0 0 (MQ below (zQ D (zTy cI cJ cZ) (some (.int u.1)) (zwX6 cI cJ cZ a6 u.2) A) args s 0 0 A) (zwX6 cI cJ cZ a6 Tc) [(0, .ref (a6 0)), (1, .int v1), (2, .int v2), (3, .int v3)] 4 [] := by
  intro n
  induction n with
  | zero => intro Tc v1 v2 v3 hF; exact absurd (show none = some u from hF) (fun q => nomatch q)
  | succ n ih =>
    intro Tc v1 v2 v3 hF
    refine z_iload_n C dX2_endByTime_4 rfl 3 rfl ?_
    refine z_aload_n C dX2_endByTime_5 rfl 0 rfl ?_
    refine z_get (ref := "SecretBroker$Leased") (v := .int (Tc 4 0)) C hX2_endByTime_X6 0 rfl rfl 4 (by decide) kX2_endByTime_25 (fun _ h9 => h9) rfl dX2_endByTime_6 ?_
    refine z_icmp_ge (tgt := 46) C dX2_endByTime_9 (by decide) (fun c1 => ?_) (fun c1 => ?_)
    · have hF := zif hF c1
      refine z_iload_n C dX2_endByTime_46 rfl 2 rfl ?_
      have hu := Option.some.inj hF
      subst hu
      exact z_iret C dX2_endByTime_47 rfl rfl
    · have hF := zelse hF c1
      refine z_aload_n C dX2_endByTime_12 rfl 0 rfl ?_
      refine z_get (ref := "SecretBroker$Leased") (v := .ref (a6 2)) C hX2_endByTime_X6 0 rfl rfl 1 (by decide) kX2_endByTime_15 (fun _ h9 => h9) rfl dX2_endByTime_13 ?_
      refine z_iload_n C dX2_endByTime_16 rfl 3 rfl ?_
      obtain ⟨g2, hF⟩ := zix_some hF
      refine z_iald (v := ((Tc 1) v3.toNatClampNeg)) C g2 2 rfl rfl rfl dX2_endByTime_17 ?_
      refine z_iconst (v := (-1)) C dX2_endByTime_18 (by decide) ?_
      refine z_icmp_eq (tgt := 40) C dX2_endByTime_19 (by decide) (fun c3 => ?_) (fun c3 => ?_)
      · have hF := zif hF c3
        refine z_iinc (v := (v3 + 1)) (lv' := [(3, .int (v3 + 1)), (0, .ref (a6 0)), (1, .int v1), (2, .int v2)]) C dX2_endByTime_40 3 rfl rfl (by decide) rfl ?_
        refine z_goto (tgt := 4) C dX2_endByTime_43 (by decide) ?_
        exact z_sub C [1, 2, 3, 0] rfl (ih Tc v1 v2 (v3 + 1) hF)
      · have hF := zelse hF c3
        refine z_aload_n C dX2_endByTime_22 rfl 0 rfl ?_
        refine z_get (ref := "SecretBroker$Leased") (v := .ref (a6 2)) C hX2_endByTime_X6 0 rfl rfl 1 (by decide) kX2_endByTime_15 (fun _ h9 => h9) rfl dX2_endByTime_23 ?_
        refine z_iload_n C dX2_endByTime_26 rfl 3 rfl ?_
        obtain ⟨g4, hF⟩ := zix_some hF
        refine z_iald (v := ((Tc 1) v3.toNatClampNeg)) C g4 2 rfl rfl rfl dX2_endByTime_27 ?_
        refine z_iload_n C dX2_endByTime_28 rfl 1 rfl ?_
        refine z_icmp_gt (tgt := 40) C dX2_endByTime_29 (by decide) (fun c5 => ?_) (fun c5 => ?_)
        · have hF := zif hF c5
          refine z_iinc (v := (v3 + 1)) (lv' := [(3, .int (v3 + 1)), (0, .ref (a6 0)), (1, .int v1), (2, .int v2)]) C dX2_endByTime_40 3 rfl rfl (by decide) rfl ?_
          refine z_goto (tgt := 4) C dX2_endByTime_43 (by decide) ?_
          exact z_sub C [1, 2, 3, 0] rfl (ih Tc v1 v2 (v3 + 1) hF)
        · have hF := zelse hF c5
          refine z_iload_n C dX2_endByTime_32 rfl 2 rfl ?_
          refine z_aload_n C dX2_endByTime_33 rfl 0 rfl ?_
          refine z_iload_n C dX2_endByTime_34 rfl 3 rfl ?_
          obtain ⟨r6, er6, hF⟩ := zbd hF
          refine z_callU (n := 1) (As := [.int v3]) (ws' := (zwX6 cI cJ cZ a6 r6.2)) C (c_X2_end_6 l D cI cJ cZ a6 Tc v3 r6 er6) gX2_endByTime_X2_end_u48X6 rfl rfl rfl rfl (by decide +kernel) ⟨Nat.le_of_ble_eq_true rfl, Nat.le_of_ble_eq_true rfl⟩ ⟨Nat.zero_le _, Nat.zero_le _⟩ 0 rfl rfl [] [] rfl rfl rfl rfl (Nat.le_of_ble_eq_true rfl) dX2_endByTime_35 ?_
          refine z_iadd C dX2_endByTime_38 ?_
          refine z_istore_n (lv' := [(2, .int (v2 + r6.1)), (0, .ref (a6 0)), (1, .int v1), (3, .int v3)]) C dX2_endByTime_39 rfl (by decide) rfl ?_
          refine z_iinc (v := (v3 + 1)) (lv' := [(3, .int (v3 + 1)), (2, .int (v2 + r6.1)), (0, .ref (a6 0)), (1, .int v1)]) C dX2_endByTime_40 3 rfl rfl (by decide) rfl ?_
          refine z_goto (tgt := 4) C dX2_endByTime_43 (by decide) ?_
          exact z_sub C [2, 3, 1, 0] rfl (ih r6.2 v1 (v2 + r6.1) (v3 + 1) hF)
set_option maxHeartbeats 4000000 in
set_option maxRecDepth 100000 in
theorem c_X2_endByTime_6 (l : Launch) (D : va_G) (cI cJ cZ : ClassId) (a6 : Nat → Nat) (T : SS) (x1 : Int32) (u : Int32 × SS) (hF : f_X2_endByTime T x1 = some u) : zM l yX2_endByTime wsX2_endByTime ({ frames := 3, cells := 0, slots := 0, locals := 63 }) D (zTy cI cJ cZ) [.ref (a6 0), .int x1] (zwX6 cI cJ cZ a6 T) (some (.int u.1)) (zwX6 cI cJ cZ a6 u.2) := by
  refine z_body (cc := cX2_endByTime) (maxL := 4) (rty := (some .int)) (own := RX2) (lv := [(0, .ref (a6 0)), (1, .int x1)]) (by decide +kernel) rfl rfl (Nat.le_of_ble_eq_true rfl) rfl (fun p e s m args below meth c A C => ?_)
  refine z_iconst (v := 0) C dX2_endByTime_0 (by decide) ?_
  refine z_istore_n (lv' := [(2, .int 0), (0, .ref (a6 0)), (1, .int x1)]) C dX2_endByTime_1 rfl (by decide) rfl ?_
  refine z_iconst (v := 0) C dX2_endByTime_2 (by decide) ?_
  refine z_istore_n (lv' := [(3, .int 0), (2, .int 0), (0, .ref (a6 0)), (1, .int x1)]) C dX2_endByTime_3 rfl (by decide) rfl ?_
  exact z_sub C [2, 3, 1, 0] rfl (c_X2_endByTime_6_j4 l D cI cJ cZ a6 T u C 600 T x1 0 0 hF)
theorem hX2_endByTime_X1 : ∀ w ∈ wsX10, w ∈ wsX2_endByTime := by decide +kernel
set_option maxHeartbeats 4000000 in
set_option maxRecDepth 100000 in
theorem c_X2_endByTime_1_j4 (l : Launch) (D : va_G) (cI cJ cZ : ClassId) (a1 : Nat → Nat) (K : SS) (u : Int32 × SS) {p : Program} {e : Env} {s : State} {m : MethodId} {args : Array Value} {below : List Frame} {meth : Method} {c : Code} {A : Nat → Prop} (C : zC p s m args meth c cX2_endByTime 4 (some .int) RX2 wsX2_endByTime D (zTy cI cJ cZ) A s.heap) : ∀ (n : Nat) (Kc : SS) (v1 : Int32) (v2 : Int32) (v3 : Int32), f_X2_endByTime_4 n Kc v1 v2 v3 = some u → zW p l e { frames := 3, cells := 0, slots := 0, locals := 63 } s m args below meth c 4 D A s.heap 0 0 (MQ below (zQ D (zTy cI cJ cZ) (some (.int u.1)) (zwX1 cI cJ cZ a1 u.2) A) args s 0 0 A) (zwX1 cI cJ cZ a1 Kc) [(0, .ref (a1 0)), (1, .int v1), (2, .int v2), (3, .int v3)] 4 [] := by
  intro n
  induction n with
  | zero => intro Kc v1 v2 v3 hF; exact absurd (show none = some u from hF) (fun q => nomatch q)
  | succ n ih =>
    intro Kc v1 v2 v3 hF
    refine z_iload_n C dX2_endByTime_4 rfl 3 rfl ?_
    refine z_aload_n C dX2_endByTime_5 rfl 0 rfl ?_
    refine z_get (ref := "SecretBroker$Leased") (v := .int (Kc 4 0)) C hX2_endByTime_X1 0 rfl rfl 4 (by decide) kX2_endByTime_25 (fun _ h9 => h9) rfl dX2_endByTime_6 ?_
    refine z_icmp_ge (tgt := 46) C dX2_endByTime_9 (by decide) (fun c1 => ?_) (fun c1 => ?_)
    · have hF := zif hF c1
      refine z_iload_n C dX2_endByTime_46 rfl 2 rfl ?_
      have hu := Option.some.inj hF
      subst hu
      exact z_iret C dX2_endByTime_47 rfl rfl
    · have hF := zelse hF c1
      refine z_aload_n C dX2_endByTime_12 rfl 0 rfl ?_
      refine z_get (ref := "SecretBroker$Leased") (v := .ref (a1 2)) C hX2_endByTime_X1 0 rfl rfl 1 (by decide) kX2_endByTime_15 (fun _ h9 => h9) rfl dX2_endByTime_13 ?_
      refine z_iload_n C dX2_endByTime_16 rfl 3 rfl ?_
      obtain ⟨g2, hF⟩ := zix_some hF
      refine z_iald (v := ((Kc 1) v3.toNatClampNeg)) C g2 2 rfl rfl rfl dX2_endByTime_17 ?_
      refine z_iconst (v := (-1)) C dX2_endByTime_18 (by decide) ?_
      refine z_icmp_eq (tgt := 40) C dX2_endByTime_19 (by decide) (fun c3 => ?_) (fun c3 => ?_)
      · have hF := zif hF c3
        refine z_iinc (v := (v3 + 1)) (lv' := [(3, .int (v3 + 1)), (0, .ref (a1 0)), (1, .int v1), (2, .int v2)]) C dX2_endByTime_40 3 rfl rfl (by decide) rfl ?_
        refine z_goto (tgt := 4) C dX2_endByTime_43 (by decide) ?_
        exact z_sub C [1, 2, 3, 0] rfl (ih Kc v1 v2 (v3 + 1) hF)
      · have hF := zelse hF c3
        refine z_aload_n C dX2_endByTime_22 rfl 0 rfl ?_
        refine z_get (ref := "SecretBroker$Leased") (v := .ref (a1 2)) C hX2_endByTime_X1 0 rfl rfl 1 (by decide) kX2_endByTime_15 (fun _ h9 => h9) rfl dX2_endByTime_23 ?_
        refine z_iload_n C dX2_endByTime_26 rfl 3 rfl ?_
        obtain ⟨g4, hF⟩ := zix_some hF
        refine z_iald (v := ((Kc 1) v3.toNatClampNeg)) C g4 2 rfl rfl rfl dX2_endByTime_27 ?_
        refine z_iload_n C dX2_endByTime_28 rfl 1 rfl ?_
        refine z_icmp_gt (tgt := 40) C dX2_endByTime_29 (by decide) (fun c5 => ?_) (fun c5 => ?_)
        · have hF := zif hF c5
          refine z_iinc (v := (v3 + 1)) (lv' := [(3, .int (v3 + 1)), (0, .ref (a1 0)), (1, .int v1), (2, .int v2)]) C dX2_endByTime_40 3 rfl rfl (by decide) rfl ?_
          refine z_goto (tgt := 4) C dX2_endByTime_43 (by decide) ?_
          exact z_sub C [1, 2, 3, 0] rfl (ih Kc v1 v2 (v3 + 1) hF)
        · have hF := zelse hF c5
          refine z_iload_n C dX2_endByTime_32 rfl 2 rfl ?_
          refine z_aload_n C dX2_endByTime_33 rfl 0 rfl ?_
          refine z_iload_n C dX2_endByTime_34 rfl 3 rfl ?_
          obtain ⟨r6, er6, hF⟩ := zbd hF
          refine z_callU (n := 1) (As := [.int v3]) (ws' := (zwX1 cI cJ cZ a1 r6.2)) C (c_X2_end_1 l D cI cJ cZ a1 Kc v3 r6 er6) gX2_endByTime_X2_end_u48X1 rfl rfl rfl rfl (by decide +kernel) ⟨Nat.le_of_ble_eq_true rfl, Nat.le_of_ble_eq_true rfl⟩ ⟨Nat.zero_le _, Nat.zero_le _⟩ 0 rfl rfl [] [] rfl rfl rfl rfl (Nat.le_of_ble_eq_true rfl) dX2_endByTime_35 ?_
          refine z_iadd C dX2_endByTime_38 ?_
          refine z_istore_n (lv' := [(2, .int (v2 + r6.1)), (0, .ref (a1 0)), (1, .int v1), (3, .int v3)]) C dX2_endByTime_39 rfl (by decide) rfl ?_
          refine z_iinc (v := (v3 + 1)) (lv' := [(3, .int (v3 + 1)), (2, .int (v2 + r6.1)), (0, .ref (a1 0)), (1, .int v1)]) C dX2_endByTime_40 3 rfl rfl (by decide) rfl ?_
          refine z_goto (tgt := 4) C dX2_endByTime_43 (by decide) ?_
          exact z_sub C [2, 3, 1, 0] rfl (ih r6.2 v1 (v2 + r6.1) (v3 + 1) hF)
set_option maxHeartbeats 4000000 in
set_option maxRecDepth 100000 in
theorem c_X2_endByTime_1 (l : Launch) (D : va_G) (cI cJ cZ : ClassId) (a1 : Nat → Nat) (K : SS) (x1 : Int32) (u : Int32 × SS) (hF : f_X2_endByTime K x1 = some u) : zM l yX2_endByTime wsX2_endByTime ({ frames := 3, cells := 0, slots := 0, locals := 63 }) D (zTy cI cJ cZ) [.ref (a1 0), .int x1] (zwX1 cI cJ cZ a1 K) (some (.int u.1)) (zwX1 cI cJ cZ a1 u.2) := by
  refine z_body (cc := cX2_endByTime) (maxL := 4) (rty := (some .int)) (own := RX2) (lv := [(0, .ref (a1 0)), (1, .int x1)]) (by decide +kernel) rfl rfl (Nat.le_of_ble_eq_true rfl) rfl (fun p e s m args below meth c A C => ?_)
  refine z_iconst (v := 0) C dX2_endByTime_0 (by decide) ?_
  refine z_istore_n (lv' := [(2, .int 0), (0, .ref (a1 0)), (1, .int x1)]) C dX2_endByTime_1 rfl (by decide) rfl ?_
  refine z_iconst (v := 0) C dX2_endByTime_2 (by decide) ?_
  refine z_istore_n (lv' := [(3, .int 0), (2, .int 0), (0, .ref (a1 0)), (1, .int x1)]) C dX2_endByTime_3 rfl (by decide) rfl ?_
  exact z_sub C [2, 3, 1, 0] rfl (c_X2_endByTime_1_j4 l D cI cJ cZ a1 K u C 600 K x1 0 0 hF)
theorem kX2_firstEnd_25 : Cond.fieldLink RX2 25 "SecretBroker$Leased" "made" "I" ∈ wsX2_firstEnd := by decide +kernel
theorem kX2_firstEnd_21 : Cond.fieldLink RX2 21 "SecretBroker$Leased" "on" "[Z" ∈ wsX2_firstEnd := by decide +kernel
theorem kX2_firstEnd_15 : Cond.fieldLink RX2 15 "SecretBroker$Leased" "ends" "[I" ∈ wsX2_firstEnd := by decide +kernel
theorem hX2_firstEnd_X6 : ∀ w ∈ wsX60, w ∈ wsX2_firstEnd := by decide +kernel
set_option maxHeartbeats 4000000 in
set_option maxRecDepth 100000 in
theorem c_X2_firstEnd_6_j4 (l : Launch) (D : va_G) (cI cJ cZ : ClassId) (a6 : Nat → Nat) (T : SS) (u : Int32) {p : Program} {e : Env} {s : State} {m : MethodId} {args : Array Value} {below : List Frame} {meth : Method} {c : Code} {A : Nat → Prop} (C : zC p s m args meth c cX2_firstEnd 3 (some .int) RX2 wsX2_firstEnd D (zTy cI cJ cZ) A s.heap) : ∀ (n : Nat) (v1 : Int32) (v2 : Int32), f_X2_firstEnd_4 T n v1 v2 = some u → zW p l e { frames := 0, cells := 0, slots := 0, locals := 0 } s m args below meth c 3 D A s.heap 0 0 (MQ below (zQ D (zTy cI cJ cZ) (some (.int u)) (zwX6 cI cJ cZ a6 T) A) args s 0 0 A) (zwX6 cI cJ cZ a6 T) [(0, .ref (a6 0)), (1, .int v1), (2, .int v2)] 4 [] := by
  intro n
  induction n with
  | zero => intro v1 v2 hF; exact absurd (show none = some u from hF) (fun q => nomatch q)
  | succ n ih =>
    intro v1 v2 hF
    refine z_iload_n C dX2_firstEnd_4 rfl 2 rfl ?_
    refine z_aload_n C dX2_firstEnd_5 rfl 0 rfl ?_
    refine z_get (ref := "SecretBroker$Leased") (v := .int (T 4 0)) C hX2_firstEnd_X6 0 rfl rfl 4 (by decide) kX2_firstEnd_25 (fun _ h9 => h9) rfl dX2_firstEnd_6 ?_
    refine z_icmp_ge (tgt := 59) C dX2_firstEnd_9 (by decide) (fun c1 => ?_) (fun c1 => ?_)
    · have hF := zif hF c1
      refine z_iload_n C dX2_firstEnd_59 rfl 1 rfl ?_
      have hu := Option.some.inj hF
      subst hu
      exact z_iret C dX2_firstEnd_60 rfl rfl
    · have hF := zelse hF c1
      refine z_aload_n C dX2_firstEnd_12 rfl 0 rfl ?_
      refine z_get (ref := "SecretBroker$Leased") (v := .ref (a6 4)) C hX2_firstEnd_X6 0 rfl rfl 3 (by decide) kX2_firstEnd_21 (fun _ h9 => h9) rfl dX2_firstEnd_13 ?_
      refine z_iload_n C dX2_firstEnd_16 rfl 2 rfl ?_
      obtain ⟨g2, hF⟩ := zix_some hF
      refine z_zald (v := ((T 3) v2.toNatClampNeg)) C g2 4 rfl rfl rfl dX2_firstEnd_17 ?_
      refine z_if_eq (tgt := 53) C dX2_firstEnd_18 (by decide) (fun c3 => ?_) (fun c3 => ?_)
      · have hF := zif hF c3
        refine z_iinc (v := (v2 + 1)) (lv' := [(2, .int (v2 + 1)), (0, .ref (a6 0)), (1, .int v1)]) C dX2_firstEnd_53 2 rfl rfl (by decide) rfl ?_
        refine z_goto (tgt := 4) C dX2_firstEnd_56 (by decide) ?_
        exact z_sub C [1, 2, 0] rfl (ih v1 (v2 + 1) hF)
      · have hF := zelse hF c3
        refine z_aload_n C dX2_firstEnd_21 rfl 0 rfl ?_
        refine z_get (ref := "SecretBroker$Leased") (v := .ref (a6 2)) C hX2_firstEnd_X6 0 rfl rfl 1 (by decide) kX2_firstEnd_15 (fun _ h9 => h9) rfl dX2_firstEnd_22 ?_
        refine z_iload_n C dX2_firstEnd_25 rfl 2 rfl ?_
        obtain ⟨g4, hF⟩ := zix_some hF
        refine z_iald (v := ((T 1) v2.toNatClampNeg)) C g4 2 rfl rfl rfl dX2_firstEnd_26 ?_
        refine z_iconst (v := (-1)) C dX2_firstEnd_27 (by decide) ?_
        refine z_icmp_eq (tgt := 53) C dX2_firstEnd_28 (by decide) (fun c5 => ?_) (fun c5 => ?_)
        · have hF := zif hF c5
          refine z_iinc (v := (v2 + 1)) (lv' := [(2, .int (v2 + 1)), (0, .ref (a6 0)), (1, .int v1)]) C dX2_firstEnd_53 2 rfl rfl (by decide) rfl ?_
          refine z_goto (tgt := 4) C dX2_firstEnd_56 (by decide) ?_
          exact z_sub C [1, 2, 0] rfl (ih v1 (v2 + 1) hF)
        · have hF := zelse hF c5
          refine z_iload_n C dX2_firstEnd_31 rfl 1 rfl ?_
          refine z_iconst (v := (-1)) C dX2_firstEnd_32 (by decide) ?_
          refine z_icmp_eq (tgt := 46) C dX2_firstEnd_33 (by decide) (fun c6 => ?_) (fun c6 => ?_)
          · have hF := zif hF c6
            refine z_aload_n C dX2_firstEnd_46 rfl 0 rfl ?_
            refine z_get (ref := "SecretBroker$Leased") (v := .ref (a6 2)) C hX2_firstEnd_X6 0 rfl rfl 1 (by decide) kX2_firstEnd_15 (fun _ h9 => h9) rfl dX2_firstEnd_47 ?_
            refine z_iload_n C dX2_firstEnd_50 rfl 2 rfl ?_
            obtain ⟨g7, hF⟩ := zix_some hF
            refine z_iald (v := ((T 1) v2.toNatClampNeg)) C g7 2 rfl rfl rfl dX2_firstEnd_51 ?_
            refine z_istore_n (lv' := [(1, .int ((T 1) v2.toNatClampNeg)), (0, .ref (a6 0)), (2, .int v2)]) C dX2_firstEnd_52 rfl (by decide) rfl ?_
            refine z_iinc (v := (v2 + 1)) (lv' := [(2, .int (v2 + 1)), (1, .int ((T 1) v2.toNatClampNeg)), (0, .ref (a6 0))]) C dX2_firstEnd_53 2 rfl rfl (by decide) rfl ?_
            refine z_goto (tgt := 4) C dX2_firstEnd_56 (by decide) ?_
            exact z_sub C [2, 1, 0] rfl (ih ((T 1) v2.toNatClampNeg) (v2 + 1) hF)
          · have hF := zelse hF c6
            refine z_aload_n C dX2_firstEnd_36 rfl 0 rfl ?_
            refine z_get (ref := "SecretBroker$Leased") (v := .ref (a6 2)) C hX2_firstEnd_X6 0 rfl rfl 1 (by decide) kX2_firstEnd_15 (fun _ h9 => h9) rfl dX2_firstEnd_37 ?_
            refine z_iload_n C dX2_firstEnd_40 rfl 2 rfl ?_
            obtain ⟨g8, hF⟩ := zix_some hF
            refine z_iald (v := ((T 1) v2.toNatClampNeg)) C g8 2 rfl rfl rfl dX2_firstEnd_41 ?_
            refine z_iload_n C dX2_firstEnd_42 rfl 1 rfl ?_
            refine z_icmp_ge (tgt := 53) C dX2_firstEnd_43 (by decide) (fun c9 => ?_) (fun c9 => ?_)
            · have hF := zif hF c9
              refine z_iinc (v := (v2 + 1)) (lv' := [(2, .int (v2 + 1)), (0, .ref (a6 0)), (1, .int v1)]) C dX2_firstEnd_53 2 rfl rfl (by decide) rfl ?_
              refine z_goto (tgt := 4) C dX2_firstEnd_56 (by decide) ?_
              exact z_sub C [1, 2, 0] rfl (ih v1 (v2 + 1) hF)
            · have hF := zelse hF c9
              refine z_aload_n C dX2_firstEnd_46 rfl 0 rfl ?_
              refine z_get (ref := "SecretBroker$Leased") (v := .ref (a6 2)) C hX2_firstEnd_X6 0 rfl rfl 1 (by decide) kX2_firstEnd_15 (fun _ h9 => h9) rfl dX2_firstEnd_47 ?_
              refine z_iload_n C dX2_firstEnd_50 rfl 2 rfl ?_
              obtain ⟨g10, hF⟩ := zix_some hF
              refine z_iald (v := ((T 1) v2.toNatClampNeg)) C g10 2 rfl rfl rfl dX2_firstEnd_51 ?_
              refine z_istore_n (lv' := [(1, .int ((T 1) v2.toNatClampNeg)), (0, .ref (a6 0)), (2, .int v2)]) C dX2_firstEnd_52 rfl (by decide) rfl ?_
              refine z_iinc (v := (v2 + 1)) (lv' := [(2, .int (v2 + 1)), (1, .int ((T 1) v2.toNatClampNeg)), (0, .ref (a6 0))]) C dX2_firstEnd_53 2 rfl rfl (by decide) rfl ?_
              refine z_goto (tgt := 4) C dX2_firstEnd_56 (by decide) ?_
              exact z_sub C [2, 1, 0] rfl (ih ((T 1) v2.toNatClampNeg) (v2 + 1) hF)
set_option maxHeartbeats 4000000 in
set_option maxRecDepth 100000 in
theorem c_X2_firstEnd_6 (l : Launch) (D : va_G) (cI cJ cZ : ClassId) (a6 : Nat → Nat) (T : SS) (u : Int32) (hF : f_X2_firstEnd T = some u) : zM l yX2_firstEnd wsX2_firstEnd ({ frames := 0, cells := 0, slots := 0, locals := 0 }) D (zTy cI cJ cZ) [.ref (a6 0)] (zwX6 cI cJ cZ a6 T) (some (.int u)) (zwX6 cI cJ cZ a6 T) := by
  refine z_body (cc := cX2_firstEnd) (maxL := 3) (rty := (some .int)) (own := RX2) (lv := [(0, .ref (a6 0))]) (by decide +kernel) rfl rfl (Nat.le_of_ble_eq_true rfl) rfl (fun p e s m args below meth c A C => ?_)
  refine z_iconst (v := (-1)) C dX2_firstEnd_0 (by decide) ?_
  refine z_istore_n (lv' := [(1, .int (-1)), (0, .ref (a6 0))]) C dX2_firstEnd_1 rfl (by decide) rfl ?_
  refine z_iconst (v := 0) C dX2_firstEnd_2 (by decide) ?_
  refine z_istore_n (lv' := [(2, .int 0), (1, .int (-1)), (0, .ref (a6 0))]) C dX2_firstEnd_3 rfl (by decide) rfl ?_
  exact z_sub C [2, 1, 0] rfl (c_X2_firstEnd_6_j4 l D cI cJ cZ a6 T u C 600 (-1) 0 hF)
