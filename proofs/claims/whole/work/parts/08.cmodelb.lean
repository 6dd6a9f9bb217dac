theorem kX8_manyCredentials_152 : Cond.fieldLink RX8 152 "SecretBrokerModel" "given" "I" ∈ wsX8_manyCredentials := by decide +kernel
theorem kX8_manyCredentials_57 : Cond.fieldLink RX8 57 "SecretBrokerModel" "works" "[Z" ∈ wsX8_manyCredentials := by decide +kernel
theorem hX8_manyCredentials_X8 : ∀ w ∈ wsX80, w ∈ wsX8_manyCredentials := by decide +kernel
set_option maxHeartbeats 4000000 in
set_option maxRecDepth 100000 in
theorem c_X8_manyCredentials_j4 (l : Launch) (D : va_G) (cI cJ cZ : ClassId) (a8 : Nat → Nat) (S : SS) (V : SL) (u : Int32) {p : Program} {e : Env} {s : State} {m : MethodId} {args : Array Value} {below : List Frame} {meth : Method} {c : Code} {A : Nat → Prop} (C : zC p s m args meth c cX8_manyCredentials 3 (some .int) RX8 wsX8_manyCredentials D (zTy cI cJ cZ) A s.heap) : ∀ (n : Nat) (v1 : Int32) (v2 : Int32), f_X8_manyCredentials_4 S n v1 v2 = some u → zW p l e { frames := 0, cells := 0, slots := 0, locals := 0 } s m args below meth c 3 D A s.heap 0 0 (MQ below (zQ D (zTy cI cJ cZ) (some (.int u)) (zwX8 cI cJ cZ a8 S V) A) args s 0 0 A) (zwX8 cI cJ cZ a8 S V) [(0, .ref (a8 0)), (1, .int v1), (2, .int v2)] 4 [] := by
  intro n
  induction n with
  | zero => intro v1 v2 hF; exact absurd (show none = some u from hF) (fun q => nomatch q)
  | succ n ih =>
    intro v1 v2 hF
    refine z_iload_n C dX8_manyCredentials_4 rfl 2 rfl ?_
    refine z_aload_n C dX8_manyCredentials_5 rfl 0 rfl ?_
    refine z_get (ref := "SecretBrokerModel") (v := .int (S 19 0)) C hX8_manyCredentials_X8 0 rfl rfl 19 (by decide) kX8_manyCredentials_152 (fun _ h9 => h9) rfl dX8_manyCredentials_6 ?_
    refine z_icmp_ge (tgt := 35) C dX8_manyCredentials_9 (by decide) (fun c1 => ?_) (fun c1 => ?_)
    · have hF := zif hF c1
      refine z_iload_n C dX8_manyCredentials_35 rfl 1 rfl ?_
      have hu := Option.some.inj hF
      subst hu
      exact z_iret C dX8_manyCredentials_36 rfl rfl
    · have hF := zelse hF c1
      refine z_iload_n C dX8_manyCredentials_12 rfl 1 rfl ?_
      refine z_aload_n C dX8_manyCredentials_13 rfl 0 rfl ?_
      refine z_get (ref := "SecretBrokerModel") (v := .ref (a8 15)) C hX8_manyCredentials_X8 0 rfl rfl 20 (by decide) kX8_manyCredentials_57 (fun _ h9 => h9) rfl dX8_manyCredentials_14 ?_
      refine z_iload_n C dX8_manyCredentials_17 rfl 2 rfl ?_
      obtain ⟨g2, hF⟩ := zix_some hF
      refine z_zald (v := ((S 20) v2.toNatClampNeg)) C g2 15 rfl rfl rfl dX8_manyCredentials_18 ?_
      refine z_if_eq (tgt := 26) C dX8_manyCredentials_19 (by decide) (fun c3 => ?_) (fun c3 => ?_)
      · have hF := zif hF c3
        refine z_iconst (v := 0) C dX8_manyCredentials_26 (by decide) ?_
        refine z_iadd C dX8_manyCredentials_27 ?_
        refine z_istore_n (lv' := [(1, .int (v1 + 0)), (0, .ref (a8 0)), (2, .int v2)]) C dX8_manyCredentials_28 rfl (by decide) rfl ?_
        refine z_iinc (v := (v2 + 1)) (lv' := [(2, .int (v2 + 1)), (1, .int (v1 + 0)), (0, .ref (a8 0))]) C dX8_manyCredentials_29 2 rfl rfl (by decide) rfl ?_
        refine z_goto (tgt := 4) C dX8_manyCredentials_32 (by decide) ?_
        exact z_sub C [2, 1, 0] rfl (ih (v1 + 0) (v2 + 1) hF)
      · have hF := zelse hF c3
        refine z_iconst (v := 1) C dX8_manyCredentials_22 (by decide) ?_
        refine z_goto (tgt := 27) C dX8_manyCredentials_23 (by decide) ?_
        refine z_iadd C dX8_manyCredentials_27 ?_
        refine z_istore_n (lv' := [(1, .int (v1 + 1)), (0, .ref (a8 0)), (2, .int v2)]) C dX8_manyCredentials_28 rfl (by decide) rfl ?_
        refine z_iinc (v := (v2 + 1)) (lv' := [(2, .int (v2 + 1)), (1, .int (v1 + 1)), (0, .ref (a8 0))]) C dX8_manyCredentials_29 2 rfl rfl (by decide) rfl ?_
        refine z_goto (tgt := 4) C dX8_manyCredentials_32 (by decide) ?_
        exact z_sub C [2, 1, 0] rfl (ih (v1 + 1) (v2 + 1) hF)
set_option maxHeartbeats 4000000 in
set_option maxRecDepth 100000 in
theorem c_X8_manyCredentials (l : Launch) (D : va_G) (cI cJ cZ : ClassId) (a8 : Nat → Nat) (S : SS) (V : SL) (u : Int32) (hF : f_X8_manyCredentials S = some u) : zM l yX8_manyCredentials wsX8_manyCredentials ({ frames := 0, cells := 0, slots := 0, locals := 0 }) D (zTy cI cJ cZ) [.ref (a8 0)] (zwX8 cI cJ cZ a8 S V) (some (.int u)) (zwX8 cI cJ cZ a8 S V) := by
  refine z_body (cc := cX8_manyCredentials) (maxL := 3) (rty := (some .int)) (own := RX8) (lv := [(0, .ref (a8 0))]) (by decide +kernel) rfl rfl (Nat.le_of_ble_eq_true rfl) rfl (fun p e s m args below meth c A C => ?_)
  refine z_iconst (v := 0) C dX8_manyCredentials_0 (by decide) ?_
  refine z_istore_n (lv' := [(1, .int 0), (0, .ref (a8 0))]) C dX8_manyCredentials_1 rfl (by decide) rfl ?_
  refine z_iconst (v := 0) C dX8_manyCredentials_2 (by decide) ?_
  refine z_istore_n (lv' := [(2, .int 0), (1, .int 0), (0, .ref (a8 0))]) C dX8_manyCredentials_3 rfl (by decide) rfl ?_
  exact z_sub C [2, 1, 0] rfl (c_X8_manyCredentials_j4 l D cI cJ cZ a8 S V u C 600 0 0 hF)
theorem kX8_ceases_32 : Cond.fieldLink RX8 32 "SecretBrokerModel" "made" "I" ∈ wsX8_ceases := by decide +kernel
theorem kX8_ceases_152 : Cond.fieldLink RX8 152 "SecretBrokerModel" "given" "I" ∈ wsX8_ceases := by decide +kernel
theorem kX8_ceases_57 : Cond.fieldLink RX8 57 "SecretBrokerModel" "works" "[Z" ∈ wsX8_ceases := by decide +kernel
theorem kX8_ceases_69 : Cond.fieldLink RX8 69 "SecretBrokerModel" "until" "[I" ∈ wsX8_ceases := by decide +kernel
theorem kX8_ceases_104 : Cond.fieldLink RX8 104 "SecretBrokerModel" "time" "I" ∈ wsX8_ceases := by decide +kernel
theorem kX8_ceases_36 : Cond.fieldLink RX8 36 "SecretBrokerModel" "isAlive" "[Z" ∈ wsX8_ceases := by decide +kernel
theorem kX8_ceases_60 : Cond.fieldLink RX8 60 "SecretBrokerModel" "owner" "[I" ∈ wsX8_ceases := by decide +kernel
theorem kX8_ceases_48 : Cond.fieldLink RX8 48 "SecretBrokerModel" "end" "[I" ∈ wsX8_ceases := by decide +kernel
theorem kX8_ceases_39 : Cond.fieldLink RX8 39 "SecretBrokerModel" "parent" "[I" ∈ wsX8_ceases := by decide +kernel
theorem hX8_ceases_X8 : ∀ w ∈ wsX80, w ∈ wsX8_ceases := by decide +kernel
set_option maxHeartbeats 4000000 in
set_option maxRecDepth 100000 in
theorem c_X8_ceases_j76 (l : Launch) (D : va_G) (cI cJ cZ : ClassId) (a8 : Nat → Nat) (S : SS) (V : SL) (u : Int32 × SS) {p : Program} {e : Env} {s : State} {m : MethodId} {args : Array Value} {below : List Frame} {meth : Method} {c : Code} {A : Nat → Prop} (C : zC p s m args meth c cX8_ceases 3 (some .int) RX8 wsX8_ceases D (zTy cI cJ cZ) A s.heap) : ∀ (n : Nat) (Sc : SS) (v1 : Int32) (v2 : Int32), f_X8_ceases_76 n Sc v1 v2 = some u → zW p l e { frames := 0, cells := 0, slots := 0, locals := 0 } s m args below meth c 3 D A s.heap 0 0 (MQ below (zQ D (zTy cI cJ cZ) (some (.int u.1)) (zwX8 cI cJ cZ a8 u.2 V) A) args s 0 0 A) (zwX8 cI cJ cZ a8 Sc V) [(0, .ref (a8 0)), (1, .int v1), (2, .int v2)] 76 [] := by
  intro n
  induction n with
  | zero => intro Sc v1 v2 hF; exact absurd (show none = some u from hF) (fun q => nomatch q)
  | succ n ih =>
    intro Sc v1 v2 hF
    refine z_iload_n C dX8_ceases_76 rfl 2 rfl ?_
    refine z_aload_n C dX8_ceases_77 rfl 0 rfl ?_
    refine z_get (ref := "SecretBrokerModel") (v := .int (Sc 19 0)) C hX8_ceases_X8 0 rfl rfl 19 (by decide) kX8_ceases_152 (fun _ h9 => h9) rfl dX8_ceases_78 ?_
    refine z_icmp_ge (tgt := 136) C dX8_ceases_81 (by decide) (fun c2 => ?_) (fun c2 => ?_)
    · have hF := zif hF c2
      refine z_iload_n C dX8_ceases_136 rfl 1 rfl ?_
      have hu := Option.some.inj hF
      subst hu
      exact z_iret C dX8_ceases_137 rfl rfl
    · have hF := zelse hF c2
      refine z_aload_n C dX8_ceases_84 rfl 0 rfl ?_
      refine z_get (ref := "SecretBrokerModel") (v := .ref (a8 15)) C hX8_ceases_X8 0 rfl rfl 20 (by decide) kX8_ceases_57 (fun _ h9 => h9) rfl dX8_ceases_85 ?_
      refine z_iload_n C dX8_ceases_88 rfl 2 rfl ?_
      obtain ⟨g3, hF⟩ := zix_some hF
      refine z_zald (v := ((Sc 20) v2.toNatClampNeg)) C g3 15 rfl rfl rfl dX8_ceases_89 ?_
      refine z_if_eq (tgt := 130) C dX8_ceases_90 (by decide) (fun c4 => ?_) (fun c4 => ?_)
      · have hF := zif hF c4
        refine z_iinc (v := (v2 + 1)) (lv' := [(2, .int (v2 + 1)), (0, .ref (a8 0)), (1, .int v1)]) C dX8_ceases_130 2 rfl rfl (by decide) rfl ?_
        refine z_goto (tgt := 76) C dX8_ceases_133 (by decide) ?_
        exact z_sub C [1, 2, 0] rfl (ih Sc v1 (v2 + 1) hF)
      · have hF := zelse hF c4
        refine z_aload_n C dX8_ceases_93 rfl 0 rfl ?_
        refine z_get (ref := "SecretBrokerModel") (v := .ref (a8 19)) C hX8_ceases_X8 0 rfl rfl 24 (by decide) kX8_ceases_69 (fun _ h9 => h9) rfl dX8_ceases_94 ?_
        refine z_iload_n C dX8_ceases_97 rfl 2 rfl ?_
        obtain ⟨g5, hF⟩ := zix_some hF
        refine z_iald (v := ((Sc 24) v2.toNatClampNeg)) C g5 19 rfl rfl rfl dX8_ceases_98 ?_
        refine z_aload_n C dX8_ceases_99 rfl 0 rfl ?_
        refine z_get (ref := "SecretBrokerModel") (v := .int (Sc 1 0)) C hX8_ceases_X8 0 rfl rfl 1 (by decide) kX8_ceases_104 (fun _ h9 => h9) rfl dX8_ceases_100 ?_
        refine z_icmp_le (tgt := 120) C dX8_ceases_103 (by decide) (fun c6 => ?_) (fun c6 => ?_)
        · have hF := zif hF c6
          refine z_aload_n C dX8_ceases_120 rfl 0 rfl ?_
          refine z_get (ref := "SecretBrokerModel") (v := .ref (a8 15)) C hX8_ceases_X8 0 rfl rfl 20 (by decide) kX8_ceases_57 (fun _ h9 => h9) rfl dX8_ceases_121 ?_
          refine z_iload_n C dX8_ceases_124 rfl 2 rfl ?_
          refine z_iconst (v := 0) C dX8_ceases_125 (by decide) ?_
          obtain ⟨g7, hF⟩ := zix_some hF
          refine z_zast (ws' := (zwX8 cI cJ cZ a8 (za Sc 20 v2 (vp_nar .boolean 0)) V)) C g7 15 rfl rfl dX8_ceases_126 (za_row Sc 20 v2 (vp_nar .boolean 0)) (zr_X8_20 cI cJ cZ a8 Sc V v2 (vp_nar .boolean 0)) ?_
          refine z_iinc (v := (v1 + 1)) (lv' := [(1, .int (v1 + 1)), (0, .ref (a8 0)), (2, .int v2)]) C dX8_ceases_127 1 rfl rfl (by decide) rfl ?_
          refine z_iinc (v := (v2 + 1)) (lv' := [(2, .int (v2 + 1)), (1, .int (v1 + 1)), (0, .ref (a8 0))]) C dX8_ceases_130 2 rfl rfl (by decide) rfl ?_
          refine z_goto (tgt := 76) C dX8_ceases_133 (by decide) ?_
          exact z_sub C [2, 1, 0] rfl (ih (za Sc 20 v2 (vp_nar .boolean 0)) (v1 + 1) (v2 + 1) hF)
        · have hF := zelse hF c6
          refine z_aload_n C dX8_ceases_106 rfl 0 rfl ?_
          refine z_get (ref := "SecretBrokerModel") (v := .ref (a8 8)) C hX8_ceases_X8 0 rfl rfl 12 (by decide) kX8_ceases_36 (fun _ h9 => h9) rfl dX8_ceases_107 ?_
          refine z_aload_n C dX8_ceases_110 rfl 0 rfl ?_
          refine z_get (ref := "SecretBrokerModel") (v := .ref (a8 16)) C hX8_ceases_X8 0 rfl rfl 21 (by decide) kX8_ceases_60 (fun _ h9 => h9) rfl dX8_ceases_111 ?_
          refine z_iload_n C dX8_ceases_114 rfl 2 rfl ?_
          obtain ⟨g8, hF⟩ := zix_some hF
          refine z_iald (v := ((Sc 21) v2.toNatClampNeg)) C g8 16 rfl rfl rfl dX8_ceases_115 ?_
          obtain ⟨g9, hF⟩ := zix_some hF
          refine z_zald (v := ((Sc 12) ((Sc 21) v2.toNatClampNeg).toNatClampNeg)) C g9 8 rfl rfl rfl dX8_ceases_116 ?_
          refine z_if_ne (tgt := 130) C dX8_ceases_117 (by decide) (fun c10 => ?_) (fun c10 => ?_)
          · have hF := zelse hF c10
            refine z_iinc (v := (v2 + 1)) (lv' := [(2, .int (v2 + 1)), (0, .ref (a8 0)), (1, .int v1)]) C dX8_ceases_130 2 rfl rfl (by decide) rfl ?_
            refine z_goto (tgt := 76) C dX8_ceases_133 (by decide) ?_
            exact z_sub C [1, 2, 0] rfl (ih Sc v1 (v2 + 1) hF)
          · have hF := zif hF c10
            refine z_aload_n C dX8_ceases_120 rfl 0 rfl ?_
            refine z_get (ref := "SecretBrokerModel") (v := .ref (a8 15)) C hX8_ceases_X8 0 rfl rfl 20 (by decide) kX8_ceases_57 (fun _ h9 => h9) rfl dX8_ceases_121 ?_
            refine z_iload_n C dX8_ceases_124 rfl 2 rfl ?_
            refine z_iconst (v := 0) C dX8_ceases_125 (by decide) ?_
            obtain ⟨g11, hF⟩ := zix_some hF
            refine z_zast (ws' := (zwX8 cI cJ cZ a8 (za Sc 20 v2 (vp_nar .boolean 0)) V)) C g11 15 rfl rfl dX8_ceases_126 (za_row Sc 20 v2 (vp_nar .boolean 0)) (zr_X8_20 cI cJ cZ a8 Sc V v2 (vp_nar .boolean 0)) ?_
            refine z_iinc (v := (v1 + 1)) (lv' := [(1, .int (v1 + 1)), (0, .ref (a8 0)), (2, .int v2)]) C dX8_ceases_127 1 rfl rfl (by decide) rfl ?_
            refine z_iinc (v := (v2 + 1)) (lv' := [(2, .int (v2 + 1)), (1, .int (v1 + 1)), (0, .ref (a8 0))]) C dX8_ceases_130 2 rfl rfl (by decide) rfl ?_
            refine z_goto (tgt := 76) C dX8_ceases_133 (by decide) ?_
            exact z_sub C [2, 1, 0] rfl (ih (za Sc 20 v2 (vp_nar .boolean 0)) (v1 + 1) (v2 + 1) hF)
set_option maxHeartbeats 4000000 in
set_option maxRecDepth 100000 in
theorem c_X8_ceases_j4 (l : Launch) (D : va_G) (cI cJ cZ : ClassId) (a8 : Nat → Nat) (S : SS) (V : SL) (u : Int32 × SS) {p : Program} {e : Env} {s : State} {m : MethodId} {args : Array Value} {below : List Frame} {meth : Method} {c : Code} {A : Nat → Prop} (C : zC p s m args meth c cX8_ceases 3 (some .int) RX8 wsX8_ceases D (zTy cI cJ cZ) A s.heap) : ∀ (n : Nat) (Sc : SS) (v1 : Int32) (v2 : Int32), f_X8_ceases_4 n Sc v1 v2 = some u → zW p l e { frames := 0, cells := 0, slots := 0, locals := 0 } s m args below meth c 3 D A s.heap 0 0 (MQ below (zQ D (zTy cI cJ cZ) (some (.int u.1)) (zwX8 cI cJ cZ a8 u.2 V) A) args s 0 0 A) (zwX8 cI cJ cZ a8 Sc V) [(0, .ref (a8 0)), (1, .int v1), (2, .int v2)] 4 [] := by
  intro n
  induction n with
  | zero => intro Sc v1 v2 hF; exact absurd (show none = some u from hF) (fun q => nomatch q)
  | succ n ih =>
    intro Sc v1 v2 hF
    refine z_iload_n C dX8_ceases_4 rfl 2 rfl ?_
    refine z_aload_n C dX8_ceases_5 rfl 0 rfl ?_
    refine z_get (ref := "SecretBrokerModel") (v := .int (Sc 11 0)) C hX8_ceases_X8 0 rfl rfl 11 (by decide) kX8_ceases_32 (fun _ h9 => h9) rfl dX8_ceases_6 ?_
    refine z_icmp_ge (tgt := 74) C dX8_ceases_9 (by decide) (fun c1 => ?_) (fun c1 => ?_)
    · have hF := zif hF c1
      refine z_iconst (v := 0) C dX8_ceases_74 (by decide) ?_
      refine z_istore_n (lv' := [(2, .int 0), (0, .ref (a8 0)), (1, .int v1)]) C dX8_ceases_75 rfl (by decide) rfl ?_
      exact z_sub C [1, 2, 0] rfl (c_X8_ceases_j76 l D cI cJ cZ a8 S V u C 600 Sc v1 0 hF)
    · have hF := zelse hF c1
      refine z_aload_n C dX8_ceases_12 rfl 0 rfl ?_
      refine z_get (ref := "SecretBrokerModel") (v := .ref (a8 8)) C hX8_ceases_X8 0 rfl rfl 12 (by decide) kX8_ceases_36 (fun _ h9 => h9) rfl dX8_ceases_13 ?_
      refine z_iload_n C dX8_ceases_16 rfl 2 rfl ?_
      obtain ⟨g12, hF⟩ := zix_some hF
      refine z_zald (v := ((Sc 12) v2.toNatClampNeg)) C g12 8 rfl rfl rfl dX8_ceases_17 ?_
      refine z_if_eq (tgt := 68) C dX8_ceases_18 (by decide) (fun c13 => ?_) (fun c13 => ?_)
      · have hF := zif hF c13
        refine z_iinc (v := (v2 + 1)) (lv' := [(2, .int (v2 + 1)), (0, .ref (a8 0)), (1, .int v1)]) C dX8_ceases_68 2 rfl rfl (by decide) rfl ?_
        refine z_goto (tgt := 4) C dX8_ceases_71 (by decide) ?_
        exact z_sub C [1, 2, 0] rfl (ih Sc v1 (v2 + 1) hF)
      · have hF := zelse hF c13
        refine z_aload_n C dX8_ceases_21 rfl 0 rfl ?_
        refine z_get (ref := "SecretBrokerModel") (v := .ref (a8 12)) C hX8_ceases_X8 0 rfl rfl 16 (by decide) kX8_ceases_48 (fun _ h9 => h9) rfl dX8_ceases_22 ?_
        refine z_iload_n C dX8_ceases_25 rfl 2 rfl ?_
        obtain ⟨g14, hF⟩ := zix_some hF
        refine z_iald (v := ((Sc 16) v2.toNatClampNeg)) C g14 12 rfl rfl rfl dX8_ceases_26 ?_
        refine z_aload_n C dX8_ceases_27 rfl 0 rfl ?_
        refine z_get (ref := "SecretBrokerModel") (v := .int (Sc 1 0)) C hX8_ceases_X8 0 rfl rfl 1 (by decide) kX8_ceases_104 (fun _ h9 => h9) rfl dX8_ceases_28 ?_
        refine z_icmp_le (tgt := 58) C dX8_ceases_31 (by decide) (fun c15 => ?_) (fun c15 => ?_)
        · have hF := zif hF c15
          refine z_aload_n C dX8_ceases_58 rfl 0 rfl ?_
          refine z_get (ref := "SecretBrokerModel") (v := .ref (a8 8)) C hX8_ceases_X8 0 rfl rfl 12 (by decide) kX8_ceases_36 (fun _ h9 => h9) rfl dX8_ceases_59 ?_
          refine z_iload_n C dX8_ceases_62 rfl 2 rfl ?_
          refine z_iconst (v := 0) C dX8_ceases_63 (by decide) ?_
          obtain ⟨g16, hF⟩ := zix_some hF
          refine z_zast (ws' := (zwX8 cI cJ cZ a8 (za Sc 12 v2 (vp_nar .boolean 0)) V)) C g16 8 rfl rfl dX8_ceases_64 (za_row Sc 12 v2 (vp_nar .boolean 0)) (zr_X8_12 cI cJ cZ a8 Sc V v2 (vp_nar .boolean 0)) ?_
          refine z_iinc (v := (v1 + 1)) (lv' := [(1, .int (v1 + 1)), (0, .ref (a8 0)), (2, .int v2)]) C dX8_ceases_65 1 rfl rfl (by decide) rfl ?_
          refine z_iinc (v := (v2 + 1)) (lv' := [(2, .int (v2 + 1)), (1, .int (v1 + 1)), (0, .ref (a8 0))]) C dX8_ceases_68 2 rfl rfl (by decide) rfl ?_
          refine z_goto (tgt := 4) C dX8_ceases_71 (by decide) ?_
          exact z_sub C [2, 1, 0] rfl (ih (za Sc 12 v2 (vp_nar .boolean 0)) (v1 + 1) (v2 + 1) hF)
        · have hF := zelse hF c15
          refine z_aload_n C dX8_ceases_34 rfl 0 rfl ?_
          refine z_get (ref := "SecretBrokerModel") (v := .ref (a8 9)) C hX8_ceases_X8 0 rfl rfl 13 (by decide) kX8_ceases_39 (fun _ h9 => h9) rfl dX8_ceases_35 ?_
          refine z_iload_n C dX8_ceases_38 rfl 2 rfl ?_
          obtain ⟨g17, hF⟩ := zix_some hF
          refine z_iald (v := ((Sc 13) v2.toNatClampNeg)) C g17 9 rfl rfl rfl dX8_ceases_39 ?_
          refine z_iconst (v := (-1)) C dX8_ceases_40 (by decide) ?_
          refine z_icmp_eq (tgt := 68) C dX8_ceases_41 (by decide) (fun c18 => ?_) (fun c18 => ?_)
          · have hF := zif hF c18
            refine z_iinc (v := (v2 + 1)) (lv' := [(2, .int (v2 + 1)), (0, .ref (a8 0)), (1, .int v1)]) C dX8_ceases_68 2 rfl rfl (by decide) rfl ?_
            refine z_goto (tgt := 4) C dX8_ceases_71 (by decide) ?_
            exact z_sub C [1, 2, 0] rfl (ih Sc v1 (v2 + 1) hF)
          · have hF := zelse hF c18
            refine z_aload_n C dX8_ceases_44 rfl 0 rfl ?_
            refine z_get (ref := "SecretBrokerModel") (v := .ref (a8 8)) C hX8_ceases_X8 0 rfl rfl 12 (by decide) kX8_ceases_36 (fun _ h9 => h9) rfl dX8_ceases_45 ?_
            refine z_aload_n C dX8_ceases_48 rfl 0 rfl ?_
            refine z_get (ref := "SecretBrokerModel") (v := .ref (a8 9)) C hX8_ceases_X8 0 rfl rfl 13 (by decide) kX8_ceases_39 (fun _ h9 => h9) rfl dX8_ceases_49 ?_
            refine z_iload_n C dX8_ceases_52 rfl 2 rfl ?_
            obtain ⟨g19, hF⟩ := zix_some hF
            refine z_iald (v := ((Sc 13) v2.toNatClampNeg)) C g19 9 rfl rfl rfl dX8_ceases_53 ?_
            obtain ⟨g20, hF⟩ := zix_some hF
            refine z_zald (v := ((Sc 12) ((Sc 13) v2.toNatClampNeg).toNatClampNeg)) C g20 8 rfl rfl rfl dX8_ceases_54 ?_
            refine z_if_ne (tgt := 68) C dX8_ceases_55 (by decide) (fun c21 => ?_) (fun c21 => ?_)
            · have hF := zelse hF c21
              refine z_iinc (v := (v2 + 1)) (lv' := [(2, .int (v2 + 1)), (0, .ref (a8 0)), (1, .int v1)]) C dX8_ceases_68 2 rfl rfl (by decide) rfl ?_
              refine z_goto (tgt := 4) C dX8_ceases_71 (by decide) ?_
              exact z_sub C [1, 2, 0] rfl (ih Sc v1 (v2 + 1) hF)
            · have hF := zif hF c21
              refine z_aload_n C dX8_ceases_58 rfl 0 rfl ?_
              refine z_get (ref := "SecretBrokerModel") (v := .ref (a8 8)) C hX8_ceases_X8 0 rfl rfl 12 (by decide) kX8_ceases_36 (fun _ h9 => h9) rfl dX8_ceases_59 ?_
              refine z_iload_n C dX8_ceases_62 rfl 2 rfl ?_
              refine z_iconst (v := 0) C dX8_ceases_63 (by decide) ?_
              obtain ⟨g22, hF⟩ := zix_some hF
              refine z_zast (ws' := (zwX8 cI cJ cZ a8 (za Sc 12 v2 (vp_nar .boolean 0)) V)) C g22 8 rfl rfl dX8_ceases_64 (za_row Sc 12 v2 (vp_nar .boolean 0)) (zr_X8_12 cI cJ cZ a8 Sc V v2 (vp_nar .boolean 0)) ?_
              refine z_iinc (v := (v1 + 1)) (lv' := [(1, .int (v1 + 1)), (0, .ref (a8 0)), (2, .int v2)]) C dX8_ceases_65 1 rfl rfl (by decide) rfl ?_
              refine z_iinc (v := (v2 + 1)) (lv' := [(2, .int (v2 + 1)), (1, .int (v1 + 1)), (0, .ref (a8 0))]) C dX8_ceases_68 2 rfl rfl (by decide) rfl ?_
              refine z_goto (tgt := 4) C dX8_ceases_71 (by decide) ?_
              exact z_sub C [2, 1, 0] rfl (ih (za Sc 12 v2 (vp_nar .boolean 0)) (v1 + 1) (v2 + 1) hF)
set_option maxHeartbeats 4000000 in
set_option maxRecDepth 100000 in
theorem c_X8_ceases (l : Launch) (D : va_G) (cI cJ cZ : ClassId) (a8 : Nat → Nat) (S : SS) (V : SL) (u : Int32 × SS) (hF : f_X8_ceases S = some u) : zM l yX8_ceases wsX8_ceases ({ frames := 0, cells := 0, slots := 0, locals := 0 }) D (zTy cI cJ cZ) [.ref (a8 0)] (zwX8 cI cJ cZ a8 S V) (some (.int u.1)) (zwX8 cI cJ cZ a8 u.2 V) := by
  refine z_body (cc := cX8_ceases) (maxL := 3) (rty := (some .int)) (own := RX8) (lv := [(0, .ref (a8 0))]) (by decide +kernel) rfl rfl (Nat.le_of_ble_eq_true rfl) rfl (fun p e s m args below meth c A C => ?_)
  refine z_iconst (v := 0) C dX8_ceases_0 (by decide) ?_
  refine z_istore_n (lv' := [(1, .int 0), (0, .ref (a8 0))]) C dX8_ceases_1 rfl (by decide) rfl ?_
  refine z_iconst (v := 1) C dX8_ceases_2 (by decide) ?_
  refine z_istore_n (lv' := [(2, .int 1), (1, .int 0), (0, .ref (a8 0))]) C dX8_ceases_3 rfl (by decide) rfl ?_
  exact z_sub C [2, 1, 0] rfl (c_X8_ceases_j4 l D cI cJ cZ a8 S V u C 600 S 0 1 hF)
theorem kX8_wasMade_32 : Cond.fieldLink RX8 32 "SecretBrokerModel" "made" "I" ∈ wsX8_wasMade := by decide +kernel
theorem hX8_wasMade_X8 : ∀ w ∈ wsX80, w ∈ wsX8_wasMade := by decide +kernel
set_option maxHeartbeats 4000000 in
set_option maxRecDepth 100000 in
theorem c_X8_wasMade (l : Launch) (D : va_G) (cI cJ cZ : ClassId) (a8 : Nat → Nat) (S : SS) (V : SL) (x1 : Int32) (u : Int32) (hF : f_X8_wasMade S x1 = some u) : zM l yX8_wasMade wsX8_wasMade ({ frames := 0, cells := 0, slots := 0, locals := 0 }) D (zTy cI cJ cZ) [.ref (a8 0), .int x1] (zwX8 cI cJ cZ a8 S V) (some (.int u)) (zwX8 cI cJ cZ a8 S V) := by
  refine z_body (cc := cX8_wasMade) (maxL := 2) (rty := (some .boolean)) (own := RX8) (lv := [(0, .ref (a8 0)), (1, .int x1)]) (by decide +kernel) rfl rfl (Nat.le_of_ble_eq_true rfl) rfl (fun p e s m args below meth c A C => ?_)
  refine z_iload_n C dX8_wasMade_0 rfl 1 rfl ?_
  refine z_if_lt (tgt := 16) C dX8_wasMade_1 (by decide) (fun c1 => ?_) (fun c1 => ?_)
  · have hF := zif hF c1
    refine z_iconst (v := 0) C dX8_wasMade_16 (by decide) ?_
    have hu := Option.some.inj hF
    subst hu
    exact z_iret C dX8_wasMade_17 rfl z_b0
  · have hF := zelse hF c1
    refine z_iload_n C dX8_wasMade_4 rfl 1 rfl ?_
    refine z_aload_n C dX8_wasMade_5 rfl 0 rfl ?_
    refine z_get (ref := "SecretBrokerModel") (v := .int (S 11 0)) C hX8_wasMade_X8 0 rfl rfl 11 (by decide) kX8_wasMade_32 (fun _ h9 => h9) rfl dX8_wasMade_6 ?_
    refine z_icmp_ge (tgt := 16) C dX8_wasMade_9 (by decide) (fun c2 => ?_) (fun c2 => ?_)
    · have hF := zif hF c2
      refine z_iconst (v := 0) C dX8_wasMade_16 (by decide) ?_
      have hu := Option.some.inj hF
      subst hu
      exact z_iret C dX8_wasMade_17 rfl z_b0
    · have hF := zelse hF c2
      refine z_iconst (v := 1) C dX8_wasMade_12 (by decide) ?_
      refine z_goto (tgt := 17) C dX8_wasMade_13 (by decide) ?_
      have hu := Option.some.inj hF
      subst hu
      exact z_iret C dX8_wasMade_17 rfl z_b1
theorem kX8_create_88 : Cond.fieldLink RX8 88 "SecretBrokerModel" "thrown" "I" ∈ wsX8_create := by decide +kernel
theorem kX8_create_32 : Cond.fieldLink RX8 32 "SecretBrokerModel" "made" "I" ∈ wsX8_create := by decide +kernel
theorem kX8_create_36 : Cond.fieldLink RX8 36 "SecretBrokerModel" "isAlive" "[Z" ∈ wsX8_create := by decide +kernel
theorem kX8_create_39 : Cond.fieldLink RX8 39 "SecretBrokerModel" "parent" "[I" ∈ wsX8_create := by decide +kernel
theorem kX8_create_42 : Cond.fieldLink RX8 42 "SecretBrokerModel" "set" "[I" ∈ wsX8_create := by decide +kernel
theorem kX8_create_45 : Cond.fieldLink RX8 45 "SecretBrokerModel" "begin" "[I" ∈ wsX8_create := by decide +kernel
theorem kX8_create_104 : Cond.fieldLink RX8 104 "SecretBrokerModel" "time" "I" ∈ wsX8_create := by decide +kernel
theorem kX8_create_48 : Cond.fieldLink RX8 48 "SecretBrokerModel" "end" "[I" ∈ wsX8_create := by decide +kernel
theorem kX8_create_51 : Cond.fieldLink RX8 51 "SecretBrokerModel" "bound" "[I" ∈ wsX8_create := by decide +kernel
theorem kX8_create_54 : Cond.fieldLink RX8 54 "SecretBrokerModel" "uses" "[I" ∈ wsX8_create := by decide +kernel
theorem kX8_create_130 : Cond.fieldLink RX8 130 "SecretBrokerModel" "policies" "I" ∈ wsX8_create := by decide +kernel
theorem hX8_create_X8 : ∀ w ∈ wsX80, w ∈ wsX8_create := by decide +kernel
set_option maxHeartbeats 4000000 in
set_option maxRecDepth 100000 in
theorem c_X8_create_j125 (l : Launch) (D : va_G) (cI cJ cZ : ClassId) (a8 : Nat → Nat) (S : SS) (V : SL) (u : Int32 × SS × SL) {p : Program} {e : Env} {s : State} {m : MethodId} {args : Array Value} {below : List Frame} {meth : Method} {c : Code} {A : Nat → Prop} (C : zC p s m args meth c cX8_create 10 (some .int) RX8 wsX8_create D (zTy cI cJ cZ) A s.heap) : ∀ (Sc : SS) (Vc : SL) (v1 : Int32) (v2 : Int32) (v3 : Int32) (v4 : Int32) (v5 : Int32) (s1 : Int32), f_X8_create_125 Sc Vc v1 v2 v3 v4 v5 s1 = some u → zW p l e { frames := 1, cells := 0, slots := 0, locals := 25 } s m args below meth c 10 D A s.heap 0 0 (MQ below (zQ D (zTy cI cJ cZ) (some (.int u.1)) (zwX8 cI cJ cZ a8 u.2.1 u.2.2) A) args s 0 0 A) (zwX8 cI cJ cZ a8 Sc Vc) [(0, .ref (a8 0)), (1, .int v1), (2, .int v2), (3, .int v3), (4, .int v4), (5, .int v5)] 125 [.int s1, .ref (a8 0)] := by
  intro Sc Vc v1 v2 v3 v4 v5 s1 hF
  refine z_put (ws' := (zwX8 cI cJ cZ a8 (zs Sc 0 s1) Vc)) (ref := "SecretBrokerModel") (ty := .int) C hX8_create_X8 tyX8 tyX8_ok nmX8 0 rfl rfl 0 (by decide) kX8_create_88 (fun _ h9 => h9) rfl (by decide +kernel) rfl rfl (Nat.le_of_ble_eq_true rfl) dX8_create_125 (zs_val Sc 0 s1) (zf_X8_0 cI cJ cZ a8 Sc Vc s1) ?_
  refine z_aload_n C dX8_create_128 rfl 0 rfl ?_
  refine z_get (ref := "SecretBrokerModel") (v := .int ((zs Sc 0 s1) 0 0)) C hX8_create_X8 0 rfl rfl 0 (by decide) kX8_create_88 (fun _ h9 => h9) rfl dX8_create_129 ?_
  refine z_if_le (tgt := 137) C dX8_create_132 (by decide) (fun c6 => ?_) (fun c6 => ?_)
  · have hF := zif hF c6
    refine z_aload_n C dX8_create_137 rfl 0 rfl ?_
    refine z_get (ref := "SecretBrokerModel") (v := .int (Sc 11 0)) C hX8_create_X8 0 rfl rfl 11 (by decide) kX8_create_32 (fun _ h9 => h9) rfl dX8_create_138 ?_
    refine z_istore (lv' := [(9, .int (Sc 11 0)), (0, .ref (a8 0)), (1, .int v1), (2, .int v2), (3, .int v3), (4, .int v4), (5, .int v5)]) C dX8_create_141 (by decide) rfl ?_
    refine z_aload_n C dX8_create_143 rfl 1 rfl ?_
    refine z_dup C dX8_create_144 rfl ?_
    refine z_get (ref := "SecretBrokerModel") (v := .int (Sc 11 0)) C hX8_create_X8 0 rfl rfl 11 (by decide) kX8_create_32 (fun _ h9 => h9) rfl dX8_create_145 ?_
    refine z_iconst (v := 1) C dX8_create_148 (by decide) ?_
    refine z_iadd C dX8_create_149 ?_
    refine z_put (ws' := (zwX8 cI cJ cZ a8 (zs (zs Sc 0 s1) 11 ((Sc 11 0) + 1)) Vc)) (ref := "SecretBrokerModel") (ty := .int) C hX8_create_X8 tyX8 tyX8_ok nmX8 0 rfl rfl 11 (by decide) kX8_create_32 (fun _ h9 => h9) rfl (by decide +kernel) rfl rfl (Nat.le_of_ble_eq_true rfl) dX8_create_150 (zs_val (zs Sc 0 s1) 11 ((Sc 11 0) + 1)) (zf_X8_11 cI cJ cZ a8 (zs Sc 0 s1) Vc ((Sc 11 0) + 1)) ?_
    refine z_aload_n C dX8_create_153 rfl 1 rfl ?_
    refine z_get (ref := "SecretBrokerModel") (v := .ref (a8 8)) C hX8_create_X8 0 rfl rfl 12 (by decide) kX8_create_36 (fun _ h9 => h9) rfl dX8_create_154 ?_
    refine z_iload C dX8_create_157 0 rfl ?_
    refine z_iconst (v := 1) C dX8_create_159 (by decide) ?_
    obtain ⟨g7, hF⟩ := zix_some hF
    refine z_zast (ws' := (zwX8 cI cJ cZ a8 (za (zs (zs Sc 0 s1) 11 ((Sc 11 0) + 1)) 12 (Sc 11 0) (vp_nar .boolean 1)) Vc)) C g7 8 rfl rfl dX8_create_160 (za_row (zs (zs Sc 0 s1) 11 ((Sc 11 0) + 1)) 12 (Sc 11 0) (vp_nar .boolean 1)) (zr_X8_12 cI cJ cZ a8 (zs (zs Sc 0 s1) 11 ((Sc 11 0) + 1)) Vc (Sc 11 0) (vp_nar .boolean 1)) ?_
    refine z_aload_n C dX8_create_161 rfl 1 rfl ?_
    refine z_get (ref := "SecretBrokerModel") (v := .ref (a8 9)) C hX8_create_X8 0 rfl rfl 13 (by decide) kX8_create_39 (fun _ h9 => h9) rfl dX8_create_162 ?_
    refine z_iload C dX8_create_165 0 rfl ?_
    refine z_iload_n C dX8_create_167 rfl 2 rfl ?_
    obtain ⟨g8, hF⟩ := zix_some hF
    refine z_iast (ws' := (zwX8 cI cJ cZ a8 (za (za (zs (zs Sc 0 s1) 11 ((Sc 11 0) + 1)) 12 (Sc 11 0) (vp_nar .boolean 1)) 13 (Sc 11 0) v1) Vc)) C g8 9 rfl rfl dX8_create_168 (za_row (za (zs (zs Sc 0 s1) 11 ((Sc 11 0) + 1)) 12 (Sc 11 0) (vp_nar .boolean 1)) 13 (Sc 11 0) v1) (zr_X8_13 cI cJ cZ a8 (za (zs (zs Sc 0 s1) 11 ((Sc 11 0) + 1)) 12 (Sc 11 0) (vp_nar .boolean 1)) Vc (Sc 11 0) v1) ?_
    refine z_aload_n C dX8_create_169 rfl 1 rfl ?_
    refine z_get (ref := "SecretBrokerModel") (v := .ref (a8 10)) C hX8_create_X8 0 rfl rfl 14 (by decide) kX8_create_42 (fun _ h9 => h9) rfl dX8_create_170 ?_
    refine z_iload C dX8_create_173 0 rfl ?_
    refine z_iload_n C dX8_create_175 rfl 3 rfl ?_
    obtain ⟨g9, hF⟩ := zix_some hF
    refine z_iast (ws' := (zwX8 cI cJ cZ a8 (za (za (za (zs (zs Sc 0 s1) 11 ((Sc 11 0) + 1)) 12 (Sc 11 0) (vp_nar .boolean 1)) 13 (Sc 11 0) v1) 14 (Sc 11 0) v2) Vc)) C g9 10 rfl rfl dX8_create_176 (za_row (za (za (zs (zs Sc 0 s1) 11 ((Sc 11 0) + 1)) 12 (Sc 11 0) (vp_nar .boolean 1)) 13 (Sc 11 0) v1) 14 (Sc 11 0) v2) (zr_X8_14 cI cJ cZ a8 (za (za (zs (zs Sc 0 s1) 11 ((Sc 11 0) + 1)) 12 (Sc 11 0) (vp_nar .boolean 1)) 13 (Sc 11 0) v1) Vc (Sc 11 0) v2) ?_
    refine z_aload_n C dX8_create_177 rfl 1 rfl ?_
    refine z_get (ref := "SecretBrokerModel") (v := .ref (a8 11)) C hX8_create_X8 0 rfl rfl 15 (by decide) kX8_create_45 (fun _ h9 => h9) rfl dX8_create_178 ?_
    refine z_iload C dX8_create_181 0 rfl ?_
    refine z_aload_n C dX8_create_183 rfl 1 rfl ?_
    refine z_get (ref := "SecretBrokerModel") (v := .int (Sc 1 0)) C hX8_create_X8 0 rfl rfl 1 (by decide) kX8_create_104 (fun _ h9 => h9) rfl dX8_create_184 ?_
    obtain ⟨g10, hF⟩ := zix_some hF
    refine z_iast (ws' := (zwX8 cI cJ cZ a8 (za (za (za (za (zs (zs Sc 0 s1) 11 ((Sc 11 0) + 1)) 12 (Sc 11 0) (vp_nar .boolean 1)) 13 (Sc 11 0) v1) 14 (Sc 11 0) v2) 15 (Sc 11 0) (Sc 1 0)) Vc)) C g10 11 rfl rfl dX8_create_187 (za_row (za (za (za (zs (zs Sc 0 s1) 11 ((Sc 11 0) + 1)) 12 (Sc 11 0) (vp_nar .boolean 1)) 13 (Sc 11 0) v1) 14 (Sc 11 0) v2) 15 (Sc 11 0) (Sc 1 0)) (zr_X8_15 cI cJ cZ a8 (za (za (za (zs (zs Sc 0 s1) 11 ((Sc 11 0) + 1)) 12 (Sc 11 0) (vp_nar .boolean 1)) 13 (Sc 11 0) v1) 14 (Sc 11 0) v2) Vc (Sc 11 0) (Sc 1 0)) ?_
    refine z_aload_n C dX8_create_188 rfl 1 rfl ?_
    refine z_get (ref := "SecretBrokerModel") (v := .ref (a8 12)) C hX8_create_X8 0 rfl rfl 16 (by decide) kX8_create_48 (fun _ h9 => h9) rfl dX8_create_189 ?_
    refine z_iload C dX8_create_192 0 rfl ?_
    refine z_aload_n C dX8_create_194 rfl 1 rfl ?_
    refine z_get (ref := "SecretBrokerModel") (v := .int (Sc 1 0)) C hX8_create_X8 0 rfl rfl 1 (by decide) kX8_create_104 (fun _ h9 => h9) rfl dX8_create_195 ?_
    refine z_iload_n C dX8_create_198 rfl 4 rfl ?_
    refine z_iadd C dX8_create_199 ?_
    obtain ⟨g11, hF⟩ := zix_some hF
    refine z_iast (ws' := (zwX8 cI cJ cZ a8 (za (za (za (za (za (zs (zs Sc 0 s1) 11 ((Sc 11 0) + 1)) 12 (Sc 11 0) (vp_nar .boolean 1)) 13 (Sc 11 0) v1) 14 (Sc 11 0) v2) 15 (Sc 11 0) (Sc 1 0)) 16 (Sc 11 0) ((Sc 1 0) + v3)) Vc)) C g11 12 rfl rfl dX8_create_200 (za_row (za (za (za (za (zs (zs Sc 0 s1) 11 ((Sc 11 0) + 1)) 12 (Sc 11 0) (vp_nar .boolean 1)) 13 (Sc 11 0) v1) 14 (Sc 11 0) v2) 15 (Sc 11 0) (Sc 1 0)) 16 (Sc 11 0) ((Sc 1 0) + v3)) (zr_X8_16 cI cJ cZ a8 (za (za (za (za (zs (zs Sc 0 s1) 11 ((Sc 11 0) + 1)) 12 (Sc 11 0) (vp_nar .boolean 1)) 13 (Sc 11 0) v1) 14 (Sc 11 0) v2) 15 (Sc 11 0) (Sc 1 0)) Vc (Sc 11 0) ((Sc 1 0) + v3)) ?_
    refine z_aload_n C dX8_create_201 rfl 1 rfl ?_
    refine z_get (ref := "SecretBrokerModel") (v := .ref (a8 13)) C hX8_create_X8 0 rfl rfl 17 (by decide) kX8_create_51 (fun _ h9 => h9) rfl dX8_create_202 ?_
    refine z_iload C dX8_create_205 0 rfl ?_
    refine z_iload C dX8_create_207 5 rfl ?_
    obtain ⟨g12, hF⟩ := zix_some hF
    refine z_iast (ws' := (zwX8 cI cJ cZ a8 (za (za (za (za (za (za (zs (zs Sc 0 s1) 11 ((Sc 11 0) + 1)) 12 (Sc 11 0) (vp_nar .boolean 1)) 13 (Sc 11 0) v1) 14 (Sc 11 0) v2) 15 (Sc 11 0) (Sc 1 0)) 16 (Sc 11 0) ((Sc 1 0) + v3)) 17 (Sc 11 0) v4) Vc)) C g12 13 rfl rfl dX8_create_209 (za_row (za (za (za (za (za (zs (zs Sc 0 s1) 11 ((Sc 11 0) + 1)) 12 (Sc 11 0) (vp_nar .boolean 1)) 13 (Sc 11 0) v1) 14 (Sc 11 0) v2) 15 (Sc 11 0) (Sc 1 0)) 16 (Sc 11 0) ((Sc 1 0) + v3)) 17 (Sc 11 0) v4) (zr_X8_17 cI cJ cZ a8 (za (za (za (za (za (zs (zs Sc 0 s1) 11 ((Sc 11 0) + 1)) 12 (Sc 11 0) (vp_nar .boolean 1)) 13 (Sc 11 0) v1) 14 (Sc 11 0) v2) 15 (Sc 11 0) (Sc 1 0)) 16 (Sc 11 0) ((Sc 1 0) + v3)) Vc (Sc 11 0) v4) ?_
    refine z_aload_n C dX8_create_210 rfl 1 rfl ?_
    refine z_get (ref := "SecretBrokerModel") (v := .ref (a8 14)) C hX8_create_X8 0 rfl rfl 18 (by decide) kX8_create_54 (fun _ h9 => h9) rfl dX8_create_211 ?_
    refine z_iload C dX8_create_214 0 rfl ?_
    refine z_iload C dX8_create_216 6 rfl ?_
    refine z_if_ne (tgt := 225) C dX8_create_218 (by decide) (fun c13 => ?_) (fun c13 => ?_)
    · have hF := zelse hF c13
      refine z_iload C dX8_create_225 6 rfl ?_
      obtain ⟨g14, hF⟩ := zix_some hF
      refine z_iast (ws' := (zwX8 cI cJ cZ a8 (za (za (za (za (za (za (za (zs (zs Sc 0 s1) 11 ((Sc 11 0) + 1)) 12 (Sc 11 0) (vp_nar .boolean 1)) 13 (Sc 11 0) v1) 14 (Sc 11 0) v2) 15 (Sc 11 0) (Sc 1 0)) 16 (Sc 11 0) ((Sc 1 0) + v3)) 17 (Sc 11 0) v4) 18 (Sc 11 0) v5) Vc)) C g14 14 rfl rfl dX8_create_227 (za_row (za (za (za (za (za (za (zs (zs Sc 0 s1) 11 ((Sc 11 0) + 1)) 12 (Sc 11 0) (vp_nar .boolean 1)) 13 (Sc 11 0) v1) 14 (Sc 11 0) v2) 15 (Sc 11 0) (Sc 1 0)) 16 (Sc 11 0) ((Sc 1 0) + v3)) 17 (Sc 11 0) v4) 18 (Sc 11 0) v5) (zr_X8_18 cI cJ cZ a8 (za (za (za (za (za (za (zs (zs Sc 0 s1) 11 ((Sc 11 0) + 1)) 12 (Sc 11 0) (vp_nar .boolean 1)) 13 (Sc 11 0) v1) 14 (Sc 11 0) v2) 15 (Sc 11 0) (Sc 1 0)) 16 (Sc 11 0) ((Sc 1 0) + v3)) 17 (Sc 11 0) v4) Vc (Sc 11 0) v5) ?_
      refine z_aload_n C dX8_create_228 rfl 1 rfl ?_
      refine z_iconst (v := 0) C dX8_create_229 (by decide) ?_
      refine z_iload_n C dX8_create_230 rfl 2 rfl ?_
      refine z_iload C dX8_create_231 0 rfl ?_
      obtain ⟨r15, er15, hF⟩ := zbd hF
      refine z_callV (n := 3) (As := [.int 0, .int v1, .int (Sc 11 0)]) (ws' := (zwX8 cI cJ cZ a8 r15.1 r15.2)) C (c_X8_writes l D cI cJ cZ a8 (za (za (za (za (za (za (za (zs (zs Sc 0 s1) 11 ((Sc 11 0) + 1)) 12 (Sc 11 0) (vp_nar .boolean 1)) 13 (Sc 11 0) v1) 14 (Sc 11 0) v2) 15 (Sc 11 0) (Sc 1 0)) 16 (Sc 11 0) ((Sc 1 0) + v3)) 17 (Sc 11 0) v4) 18 (Sc 11 0) v5) Vc 0 v1 (Sc 11 0) r15 er15) gX8_create_X8_writes rfl rfl rfl (by decide +kernel) ⟨Nat.le_of_ble_eq_true rfl, Nat.le_of_ble_eq_true rfl⟩ ⟨Nat.zero_le _, Nat.zero_le _⟩ 0 rfl rfl [] [] rfl rfl rfl rfl (Nat.le_of_ble_eq_true rfl) dX8_create_233 ?_
      refine z_iload C dX8_create_236 0 rfl ?_
      have hu := Option.some.inj hF
      subst hu
      exact z_iret C dX8_create_238 rfl rfl
    · have hF := zif hF c13
      refine z_iconst (v := (-1)) C dX8_create_221 (by decide) ?_
      refine z_goto (tgt := 227) C dX8_create_222 (by decide) ?_
      obtain ⟨g16, hF⟩ := zix_some hF
      refine z_iast (ws' := (zwX8 cI cJ cZ a8 (za (za (za (za (za (za (za (zs (zs Sc 0 s1) 11 ((Sc 11 0) + 1)) 12 (Sc 11 0) (vp_nar .boolean 1)) 13 (Sc 11 0) v1) 14 (Sc 11 0) v2) 15 (Sc 11 0) (Sc 1 0)) 16 (Sc 11 0) ((Sc 1 0) + v3)) 17 (Sc 11 0) v4) 18 (Sc 11 0) (-1)) Vc)) C g16 14 rfl rfl dX8_create_227 (za_row (za (za (za (za (za (za (zs (zs Sc 0 s1) 11 ((Sc 11 0) + 1)) 12 (Sc 11 0) (vp_nar .boolean 1)) 13 (Sc 11 0) v1) 14 (Sc 11 0) v2) 15 (Sc 11 0) (Sc 1 0)) 16 (Sc 11 0) ((Sc 1 0) + v3)) 17 (Sc 11 0) v4) 18 (Sc 11 0) (-1)) (zr_X8_18 cI cJ cZ a8 (za (za (za (za (za (za (zs (zs Sc 0 s1) 11 ((Sc 11 0) + 1)) 12 (Sc 11 0) (vp_nar .boolean 1)) 13 (Sc 11 0) v1) 14 (Sc 11 0) v2) 15 (Sc 11 0) (Sc 1 0)) 16 (Sc 11 0) ((Sc 1 0) + v3)) 17 (Sc 11 0) v4) Vc (Sc 11 0) (-1)) ?_
      refine z_aload_n C dX8_create_228 rfl 1 rfl ?_
      refine z_iconst (v := 0) C dX8_create_229 (by decide) ?_
      refine z_iload_n C dX8_create_230 rfl 2 rfl ?_
      refine z_iload C dX8_create_231 0 rfl ?_
      obtain ⟨r17, er17, hF⟩ := zbd hF
      refine z_callV (n := 3) (As := [.int 0, .int v1, .int (Sc 11 0)]) (ws' := (zwX8 cI cJ cZ a8 r17.1 r17.2)) C (c_X8_writes l D cI cJ cZ a8 (za (za (za (za (za (za (za (zs (zs Sc 0 s1) 11 ((Sc 11 0) + 1)) 12 (Sc 11 0) (vp_nar .boolean 1)) 13 (Sc 11 0) v1) 14 (Sc 11 0) v2) 15 (Sc 11 0) (Sc 1 0)) 16 (Sc 11 0) ((Sc 1 0) + v3)) 17 (Sc 11 0) v4) 18 (Sc 11 0) (-1)) Vc 0 v1 (Sc 11 0) r17 er17) gX8_create_X8_writes rfl rfl rfl (by decide +kernel) ⟨Nat.le_of_ble_eq_true rfl, Nat.le_of_ble_eq_true rfl⟩ ⟨Nat.zero_le _, Nat.zero_le _⟩ 0 rfl rfl [] [] rfl rfl rfl rfl (Nat.le_of_ble_eq_true rfl) dX8_create_233 ?_
      refine z_iload C dX8_create_236 0 rfl ?_
      have hu := Option.some.inj hF
      subst hu
      exact z_iret C dX8_create_238 rfl rfl
  · have hF := zelse hF c6
    refine z_iconst (v := 0) C dX8_create_135 (by decide) ?_
    have hu := Option.some.inj hF
    subst hu
    exact z_iret C dX8_create_136 rfl rfl
set_option maxHeartbeats 4000000 in
set_option maxRecDepth 100000 in
theorem c_X8_create_j98 (l : Launch) (D : va_G) (cI cJ cZ : ClassId) (a8 : Nat → Nat) (S : SS) (V : SL) (u : Int32 × SS × SL) {p : Program} {e : Env} {s : State} {m : MethodId} {args : Array Value} {below : List Frame} {meth : Method} {c : Code} {A : Nat → Prop} (C : zC p s m args meth c cX8_create 10 (some .int) RX8 wsX8_create D (zTy cI cJ cZ) A s.heap) : ∀ (Sc : SS) (Vc : SL) (v1 : Int32) (v2 : Int32) (v3 : Int32) (v4 : Int32) (v5 : Int32), f_X8_create_98 Sc Vc v1 v2 v3 v4 v5 = some u → zW p l e { frames := 1, cells := 0, slots := 0, locals := 25 } s m args below meth c 10 D A s.heap 0 0 (MQ below (zQ D (zTy cI cJ cZ) (some (.int u.1)) (zwX8 cI cJ cZ a8 u.2.1 u.2.2) A) args s 0 0 A) (zwX8 cI cJ cZ a8 Sc Vc) [(0, .ref (a8 0)), (1, .int v1), (2, .int v2), (3, .int v3), (4, .int v4), (5, .int v5)] 98 [.ref (a8 0)] := by
  intro Sc Vc v1 v2 v3 v4 v5 hF
  refine z_iconst (v := 2) C dX8_create_98 (by decide) ?_
  refine z_goto (tgt := 125) C dX8_create_99 (by decide) ?_
  exact c_X8_create_j125 l D cI cJ cZ a8 S V u C Sc Vc v1 v2 v3 v4 v5 2 hF
set_option maxHeartbeats 4000000 in
set_option maxRecDepth 100000 in
theorem c_X8_create_j120 (l : Launch) (D : va_G) (cI cJ cZ : ClassId) (a8 : Nat → Nat) (S : SS) (V : SL) (u : Int32 × SS × SL) {p : Program} {e : Env} {s : State} {m : MethodId} {args : Array Value} {below : List Frame} {meth : Method} {c : Code} {A : Nat → Prop} (C : zC p s m args meth c cX8_create 10 (some .int) RX8 wsX8_create D (zTy cI cJ cZ) A s.heap) : ∀ (Sc : SS) (Vc : SL) (v1 : Int32) (v2 : Int32) (v3 : Int32) (v4 : Int32) (v5 : Int32), f_X8_create_120 Sc Vc v1 v2 v3 v4 v5 = some u → zW p l e { frames := 1, cells := 0, slots := 0, locals := 25 } s m args below meth c 10 D A s.heap 0 0 (MQ below (zQ D (zTy cI cJ cZ) (some (.int u.1)) (zwX8 cI cJ cZ a8 u.2.1 u.2.2) A) args s 0 0 A) (zwX8 cI cJ cZ a8 Sc Vc) [(0, .ref (a8 0)), (1, .int v1), (2, .int v2), (3, .int v3), (4, .int v4), (5, .int v5)] 120 [.ref (a8 0)] := by
  intro Sc Vc v1 v2 v3 v4 v5 hF
  refine z_iconst (v := 3) C dX8_create_120 (by decide) ?_
  refine z_goto (tgt := 125) C dX8_create_121 (by decide) ?_
  exact c_X8_create_j125 l D cI cJ cZ a8 S V u C Sc Vc v1 v2 v3 v4 v5 3 hF
set_option maxHeartbeats 4000000 in
set_option maxRecDepth 100000 in
theorem c_X8_create_j55 (l : Launch) (D : va_G) (cI cJ cZ : ClassId) (a8 : Nat → Nat) (S : SS) (V : SL) (u : Int32 × SS × SL) {p : Program} {e : Env} {s : State} {m : MethodId} {args : Array Value} {below : List Frame} {meth : Method} {c : Code} {A : Nat → Prop} (C : zC p s m args meth c cX8_create 10 (some .int) RX8 wsX8_create D (zTy cI cJ cZ) A s.heap) : ∀ (Sc : SS) (Vc : SL) (v1 : Int32) (v2 : Int32) (v3 : Int32) (v4 : Int32) (v5 : Int32) (v6 : Int32) (v7 : Int32) (s0 : Int32), f_X8_create_55 Sc Vc v1 v2 v3 v4 v5 v6 v7 s0 = some u → zW p l e { frames := 1, cells := 0, slots := 0, locals := 25 } s m args below meth c 10 D A s.heap 0 0 (MQ below (zQ D (zTy cI cJ cZ) (some (.int u.1)) (zwX8 cI cJ cZ a8 u.2.1 u.2.2) A) args s 0 0 A) (zwX8 cI cJ cZ a8 Sc Vc) [(0, .ref (a8 0)), (1, .int v1), (2, .int v2), (3, .int v3), (4, .int v4), (5, .int v5), (6, .int v6), (7, .int v7)] 55 [.int s0] := by
  intro Sc Vc v1 v2 v3 v4 v5 v6 v7 s0 hF
  refine z_istore (lv' := [(8, .int s0), (0, .ref (a8 0)), (1, .int v1), (2, .int v2), (3, .int v3), (4, .int v4), (5, .int v5), (6, .int v6), (7, .int v7)]) C dX8_create_55 (by decide) rfl ?_
  refine z_aload_n C dX8_create_57 rfl 1 rfl ?_
  refine z_iload C dX8_create_58 8 rfl ?_
  refine z_if_ne (tgt := 67) C dX8_create_60 (by decide) (fun c4 => ?_) (fun c4 => ?_)
  · have hF := zelse hF c4
    refine z_iload C dX8_create_67 7 rfl ?_
    refine z_if_eq (tgt := 98) C dX8_create_69 (by decide) (fun c5 => ?_) (fun c5 => ?_)
    · have hF := zif hF c5
      exact z_sub C [1, 2, 3, 4, 5, 6] rfl (c_X8_create_j98 l D cI cJ cZ a8 S V u C Sc Vc v1 v2 v3 v4 v5 hF)
    · have hF := zelse hF c5
      refine z_iload C dX8_create_72 0 rfl ?_
      refine z_if_eq (tgt := 98) C dX8_create_74 (by decide) (fun c18 => ?_) (fun c18 => ?_)
      · have hF := zif hF c18
        exact z_sub C [1, 2, 3, 4, 5, 6] rfl (c_X8_create_j98 l D cI cJ cZ a8 S V u C Sc Vc v1 v2 v3 v4 v5 hF)
      · have hF := zelse hF c18
        refine z_iload_n C dX8_create_77 rfl 4 rfl ?_
        refine z_iload C dX8_create_78 5 rfl ?_
        obtain ⟨r19, er19, hF⟩ := zbd hF
        refine z_callS (n := 2) (As := [.int v3, .int v4]) C (c_X8_isLease l D cI cJ cZ v3 v4 r19 er19) gX8_create_X8_isLease rfl rfl rfl (by decide +kernel) ⟨Nat.le_of_ble_eq_true rfl, Nat.le_of_ble_eq_true rfl⟩ ⟨Nat.zero_le _, Nat.zero_le _⟩ rfl rfl (Nat.le_of_ble_eq_true rfl) dX8_create_80 ?_
        refine z_if_eq (tgt := 98) C dX8_create_83 (by decide) (fun c20 => ?_) (fun c20 => ?_)
        · have hF := zif hF c20
          exact z_sub C [1, 2, 3, 4, 5, 6] rfl (c_X8_create_j98 l D cI cJ cZ a8 S V u C Sc Vc v1 v2 v3 v4 v5 hF)
        · have hF := zelse hF c20
          refine z_iload C dX8_create_86 6 rfl ?_
          refine z_if_lt (tgt := 98) C dX8_create_88 (by decide) (fun c21 => ?_) (fun c21 => ?_)
          · have hF := zif hF c21
            exact z_sub C [1, 2, 3, 4, 5, 6] rfl (c_X8_create_j98 l D cI cJ cZ a8 S V u C Sc Vc v1 v2 v3 v4 v5 hF)
          · have hF := zelse hF c21
            refine z_iload C dX8_create_91 6 rfl ?_
            refine z_bipush (v := 100) C dX8_create_93 (by decide) ?_
            refine z_icmp_le (tgt := 102) C dX8_create_95 (by decide) (fun c22 => ?_) (fun c22 => ?_)
            · have hF := zif hF c22
              refine z_aload_n C dX8_create_102 rfl 1 rfl ?_
              refine z_get (ref := "SecretBrokerModel") (v := .ref (a8 8)) C hX8_create_X8 0 rfl rfl 12 (by decide) kX8_create_36 (fun _ h9 => h9) rfl dX8_create_103 ?_
              refine z_iload_n C dX8_create_106 rfl 2 rfl ?_
              obtain ⟨g23, hF⟩ := zix_some hF
              refine z_zald (v := ((Sc 12) v1.toNatClampNeg)) C g23 8 rfl rfl rfl dX8_create_107 ?_
              refine z_if_eq (tgt := 120) C dX8_create_108 (by decide) (fun c24 => ?_) (fun c24 => ?_)
              · have hF := zif hF c24
                exact z_sub C [1, 2, 3, 4, 5, 6] rfl (c_X8_create_j120 l D cI cJ cZ a8 S V u C Sc Vc v1 v2 v3 v4 v5 hF)
              · have hF := zelse hF c24
                refine z_aload_n C dX8_create_111 rfl 1 rfl ?_
                obtain ⟨r25, er25, hF⟩ := zbd hF
                refine z_callV (n := 0) (As := []) (ws' := (zwX8 cI cJ cZ a8 Sc Vc)) C (c_X8_manyTokens l D cI cJ cZ a8 Sc Vc r25 er25) gX8_create_X8_manyTokens rfl rfl rfl (by decide +kernel) ⟨Nat.le_of_ble_eq_true rfl, Nat.le_of_ble_eq_true rfl⟩ ⟨Nat.zero_le _, Nat.zero_le _⟩ 0 rfl rfl [] [] rfl rfl rfl rfl (Nat.le_of_ble_eq_true rfl) dX8_create_112 ?_
                refine z_bipush (v := 30) C dX8_create_115 (by decide) ?_
                refine z_icmp_ne (tgt := 124) C dX8_create_117 (by decide) (fun c26 => ?_) (fun c26 => ?_)
                · have hF := zelse hF c26
                  refine z_iconst (v := 0) C dX8_create_124 (by decide) ?_
                  exact z_sub C [1, 2, 3, 4, 5, 6] rfl (c_X8_create_j125 l D cI cJ cZ a8 S V u C Sc Vc v1 v2 v3 v4 v5 0 hF)
                · have hF := zif hF c26
                  exact z_sub C [1, 2, 3, 4, 5, 6] rfl (c_X8_create_j120 l D cI cJ cZ a8 S V u C Sc Vc v1 v2 v3 v4 v5 hF)
            · have hF := zelse hF c22
              exact z_sub C [1, 2, 3, 4, 5, 6] rfl (c_X8_create_j98 l D cI cJ cZ a8 S V u C Sc Vc v1 v2 v3 v4 v5 hF)
  · have hF := zif hF c4
    refine z_iconst (v := 1) C dX8_create_63 (by decide) ?_
    refine z_goto (tgt := 125) C dX8_create_64 (by decide) ?_
    exact z_sub C [1, 2, 3, 4, 5, 6] rfl (c_X8_create_j125 l D cI cJ cZ a8 S V u C Sc Vc v1 v2 v3 v4 v5 1 hF)
set_option maxHeartbeats 4000000 in
set_option maxRecDepth 100000 in
theorem c_X8_create_j54 (l : Launch) (D : va_G) (cI cJ cZ : ClassId) (a8 : Nat → Nat) (S : SS) (V : SL) (u : Int32 × SS × SL) {p : Program} {e : Env} {s : State} {m : MethodId} {args : Array Value} {below : List Frame} {meth : Method} {c : Code} {A : Nat → Prop} (C : zC p s m args meth c cX8_create 10 (some .int) RX8 wsX8_create D (zTy cI cJ cZ) A s.heap) : ∀ (Sc : SS) (Vc : SL) (v1 : Int32) (v2 : Int32) (v3 : Int32) (v4 : Int32) (v5 : Int32) (v6 : Int32) (v7 : Int32), f_X8_create_54 Sc Vc v1 v2 v3 v4 v5 v6 v7 = some u → zW p l e { frames := 1, cells := 0, slots := 0, locals := 25 } s m args below meth c 10 D A s.heap 0 0 (MQ below (zQ D (zTy cI cJ cZ) (some (.int u.1)) (zwX8 cI cJ cZ a8 u.2.1 u.2.2) A) args s 0 0 A) (zwX8 cI cJ cZ a8 Sc Vc) [(0, .ref (a8 0)), (1, .int v1), (2, .int v2), (3, .int v3), (4, .int v4), (5, .int v5), (6, .int v6), (7, .int v7)] 54 [] := by
  intro Sc Vc v1 v2 v3 v4 v5 v6 v7 hF
  refine z_iconst (v := 0) C dX8_create_54 (by decide) ?_
  exact c_X8_create_j55 l D cI cJ cZ a8 S V u C Sc Vc v1 v2 v3 v4 v5 v6 v7 0 hF
set_option maxHeartbeats 4000000 in
set_option maxRecDepth 100000 in
theorem c_X8_create_j50 (l : Launch) (D : va_G) (cI cJ cZ : ClassId) (a8 : Nat → Nat) (S : SS) (V : SL) (u : Int32 × SS × SL) {p : Program} {e : Env} {s : State} {m : MethodId} {args : Array Value} {below : List Frame} {meth : Method} {c : Code} {A : Nat → Prop} (C : zC p s m args meth c cX8_create 10 (some .int) RX8 wsX8_create D (zTy cI cJ cZ) A s.heap) : ∀ (Sc : SS) (Vc : SL) (v1 : Int32) (v2 : Int32) (v3 : Int32) (v4 : Int32) (v5 : Int32) (v6 : Int32) (v7 : Int32), f_X8_create_50 Sc Vc v1 v2 v3 v4 v5 v6 v7 = some u → zW p l e { frames := 1, cells := 0, slots := 0, locals := 25 } s m args below meth c 10 D A s.heap 0 0 (MQ below (zQ D (zTy cI cJ cZ) (some (.int u.1)) (zwX8 cI cJ cZ a8 u.2.1 u.2.2) A) args s 0 0 A) (zwX8 cI cJ cZ a8 Sc Vc) [(0, .ref (a8 0)), (1, .int v1), (2, .int v2), (3, .int v3), (4, .int v4), (5, .int v5), (6, .int v6), (7, .int v7)] 50 [] := by
  intro Sc Vc v1 v2 v3 v4 v5 v6 v7 hF
  refine z_iconst (v := 1) C dX8_create_50 (by decide) ?_
  refine z_goto (tgt := 55) C dX8_create_51 (by decide) ?_
  exact c_X8_create_j55 l D cI cJ cZ a8 S V u C Sc Vc v1 v2 v3 v4 v5 v6 v7 1 hF
set_option maxHeartbeats 4000000 in
set_option maxRecDepth 100000 in
theorem c_X8_create_j19 (l : Launch) (D : va_G) (cI cJ cZ : ClassId) (a8 : Nat → Nat) (S : SS) (V : SL) (u : Int32 × SS × SL) {p : Program} {e : Env} {s : State} {m : MethodId} {args : Array Value} {below : List Frame} {meth : Method} {c : Code} {A : Nat → Prop} (C : zC p s m args meth c cX8_create 10 (some .int) RX8 wsX8_create D (zTy cI cJ cZ) A s.heap) : ∀ (Sc : SS) (Vc : SL) (v1 : Int32) (v2 : Int32) (v3 : Int32) (v4 : Int32) (v5 : Int32) (s0 : Int32), f_X8_create_19 Sc Vc v1 v2 v3 v4 v5 s0 = some u → zW p l e { frames := 1, cells := 0, slots := 0, locals := 25 } s m args below meth c 10 D A s.heap 0 0 (MQ below (zQ D (zTy cI cJ cZ) (some (.int u.1)) (zwX8 cI cJ cZ a8 u.2.1 u.2.2) A) args s 0 0 A) (zwX8 cI cJ cZ a8 Sc Vc) [(0, .ref (a8 0)), (1, .int v1), (2, .int v2), (3, .int v3), (4, .int v4), (5, .int v5)] 19 [.int s0] := by
  intro Sc Vc v1 v2 v3 v4 v5 s0 hF
  refine z_istore (lv' := [(6, .int s0), (0, .ref (a8 0)), (1, .int v1), (2, .int v2), (3, .int v3), (4, .int v4), (5, .int v5)]) C dX8_create_19 (by decide) rfl ?_
  refine z_aload_n C dX8_create_21 rfl 1 rfl ?_
  refine z_iload_n C dX8_create_22 rfl 2 rfl ?_
  obtain ⟨r2, er2, hF⟩ := zbd hF
  refine z_callV (n := 1) (As := [.int v1]) (ws' := (zwX8 cI cJ cZ a8 Sc Vc)) C (c_X8_wasMade l D cI cJ cZ a8 Sc Vc v1 r2 er2) gX8_create_X8_wasMade rfl rfl rfl (by decide +kernel) ⟨Nat.le_of_ble_eq_true rfl, Nat.le_of_ble_eq_true rfl⟩ ⟨Nat.zero_le _, Nat.zero_le _⟩ 0 rfl rfl [] [] rfl rfl rfl rfl (Nat.le_of_ble_eq_true rfl) dX8_create_23 ?_
  refine z_istore (lv' := [(7, .int r2), (6, .int s0), (0, .ref (a8 0)), (1, .int v1), (2, .int v2), (3, .int v3), (4, .int v4), (5, .int v5)]) C dX8_create_26 (by decide) rfl ?_
  refine z_iload C dX8_create_28 0 rfl ?_
  refine z_if_eq (tgt := 54) C dX8_create_30 (by decide) (fun c3 => ?_) (fun c3 => ?_)
  · have hF := zif hF c3
    exact z_sub C [2, 3, 4, 5, 6, 7, 1, 0] rfl (c_X8_create_j54 l D cI cJ cZ a8 S V u C Sc Vc v1 v2 v3 v4 v5 s0 r2 hF)
  · have hF := zelse hF c3
    refine z_iload_n C dX8_create_33 rfl 3 rfl ?_
    refine z_if_eq (tgt := 50) C dX8_create_34 (by decide) (fun c27 => ?_) (fun c27 => ?_)
    · have hF := zif hF c27
      exact z_sub C [2, 3, 4, 5, 6, 7, 1, 0] rfl (c_X8_create_j50 l D cI cJ cZ a8 S V u C Sc Vc v1 v2 v3 v4 v5 s0 r2 hF)
    · have hF := zelse hF c27
      refine z_iload_n C dX8_create_37 rfl 4 rfl ?_
      refine z_aload_n C dX8_create_38 rfl 2 rfl ?_
      refine z_get (ref := "SecretBrokerModel") (v := .ref (a8 10)) C hX8_create_X8 0 rfl rfl 14 (by decide) kX8_create_42 (fun _ h9 => h9) rfl dX8_create_39 ?_
      refine z_iload_n C dX8_create_42 rfl 3 rfl ?_
      obtain ⟨g28, hF⟩ := zix_some hF
      refine z_iald (v := ((Sc 14) v1.toNatClampNeg)) C g28 10 rfl rfl rfl dX8_create_43 ?_
      refine z_iconst (v := (-1)) C dX8_create_44 (by decide) ?_
      refine z_ixor C dX8_create_45 ?_
      refine z_iand C dX8_create_46 ?_
      refine z_if_ne (tgt := 54) C dX8_create_47 (by decide) (fun c29 => ?_) (fun c29 => ?_)
      · have hF := zelse hF c29
        exact z_sub C [2, 3, 4, 5, 6, 7, 1, 0] rfl (c_X8_create_j54 l D cI cJ cZ a8 S V u C Sc Vc v1 v2 v3 v4 v5 s0 r2 hF)
      · have hF := zif hF c29
        exact z_sub C [2, 3, 4, 5, 6, 7, 1, 0] rfl (c_X8_create_j50 l D cI cJ cZ a8 S V u C Sc Vc v1 v2 v3 v4 v5 s0 r2 hF)
set_option maxHeartbeats 4000000 in
set_option maxRecDepth 100000 in
theorem c_X8_create_j18 (l : Launch) (D : va_G) (cI cJ cZ : ClassId) (a8 : Nat → Nat) (S : SS) (V : SL) (u : Int32 × SS × SL) {p : Program} {e : Env} {s : State} {m : MethodId} {args : Array Value} {below : List Frame} {meth : Method} {c : Code} {A : Nat → Prop} (C : zC p s m args meth c cX8_create 10 (some .int) RX8 wsX8_create D (zTy cI cJ cZ) A s.heap) : ∀ (Sc : SS) (Vc : SL) (v1 : Int32) (v2 : Int32) (v3 : Int32) (v4 : Int32) (v5 : Int32), f_X8_create_18 Sc Vc v1 v2 v3 v4 v5 = some u → zW p l e { frames := 1, cells := 0, slots := 0, locals := 25 } s m args below meth c 10 D A s.heap 0 0 (MQ below (zQ D (zTy cI cJ cZ) (some (.int u.1)) (zwX8 cI cJ cZ a8 u.2.1 u.2.2) A) args s 0 0 A) (zwX8 cI cJ cZ a8 Sc Vc) [(0, .ref (a8 0)), (1, .int v1), (2, .int v2), (3, .int v3), (4, .int v4), (5, .int v5)] 18 [] := by
  intro Sc Vc v1 v2 v3 v4 v5 hF
  refine z_iconst (v := 0) C dX8_create_18 (by decide) ?_
  exact c_X8_create_j19 l D cI cJ cZ a8 S V u C Sc Vc v1 v2 v3 v4 v5 0 hF
set_option maxHeartbeats 4000000 in
set_option maxRecDepth 100000 in
theorem c_X8_create (l : Launch) (D : va_G) (cI cJ cZ : ClassId) (a8 : Nat → Nat) (S : SS) (V : SL) (x1 : Int32) (x2 : Int32) (x3 : Int32) (x4 : Int32) (x5 : Int32) (u : Int32 × SS × SL) (hF : f_X8_create S V x1 x2 x3 x4 x5 = some u) : zM l yX8_create wsX8_create ({ frames := 1, cells := 0, slots := 0, locals := 25 }) D (zTy cI cJ cZ) [.ref (a8 0), .int x1, .int x2, .int x3, .int x4, .int x5] (zwX8 cI cJ cZ a8 S V) (some (.int u.1)) (zwX8 cI cJ cZ a8 u.2.1 u.2.2) := by
  refine z_body (cc := cX8_create) (maxL := 10) (rty := (some .int)) (own := RX8) (lv := [(0, .ref (a8 0)), (1, .int x1), (2, .int x2), (3, .int x3), (4, .int x4), (5, .int x5)]) (by decide +kernel) rfl rfl (Nat.le_of_ble_eq_true rfl) rfl (fun p e s m args below meth c A C => ?_)
  refine z_iload_n C dX8_create_0 rfl 2 rfl ?_
  refine z_if_lt (tgt := 18) C dX8_create_1 (by decide) (fun c1 => ?_) (fun c1 => ?_)
  · have hF := zif hF c1
    exact c_X8_create_j18 l D cI cJ cZ a8 S V u C S V x1 x2 x3 x4 x5 hF
  · have hF := zelse hF c1
    refine z_iload_n C dX8_create_4 rfl 2 rfl ?_
    refine z_iconst (v := 1) C dX8_create_5 (by decide) ?_
    refine z_aload_n C dX8_create_6 rfl 0 rfl ?_
    refine z_get (ref := "SecretBrokerModel") (v := .int (S 2 0)) C hX8_create_X8 0 rfl rfl 2 (by decide) kX8_create_130 (fun _ h9 => h9) rfl dX8_create_7 ?_
    refine z_ishl C dX8_create_10 ?_
    refine z_icmp_ge (tgt := 18) C dX8_create_11 (by decide) (fun c30 => ?_) (fun c30 => ?_)
    · have hF := zif hF c30
      exact c_X8_create_j18 l D cI cJ cZ a8 S V u C S V x1 x2 x3 x4 x5 hF
    · have hF := zelse hF c30
      refine z_iconst (v := 1) C dX8_create_14 (by decide) ?_
      refine z_goto (tgt := 19) C dX8_create_15 (by decide) ?_
      exact c_X8_create_j19 l D cI cJ cZ a8 S V u C S V x1 x2 x3 x4 x5 1 hF
theorem kX8_renewed_104 : Cond.fieldLink RX8 104 "SecretBrokerModel" "time" "I" ∈ wsX8_renewed := by decide +kernel
theorem hX8_renewed_X8 : ∀ w ∈ wsX80, w ∈ wsX8_renewed := by decide +kernel
set_option maxHeartbeats 4000000 in
set_option maxRecDepth 100000 in
theorem c_X8_renewed (l : Launch) (D : va_G) (cI cJ cZ : ClassId) (a8 : Nat → Nat) (S : SS) (V : SL) (x1 : Int32) (x2 : Int32) (x3 : Int32) (x4 : Int32) (u : Int32) (hF : f_X8_renewed S x1 x2 x3 x4 = some u) : zM l yX8_renewed wsX8_renewed ({ frames := 0, cells := 0, slots := 0, locals := 0 }) D (zTy cI cJ cZ) [.ref (a8 0), .int x1, .int x2, .int x3, .int x4] (zwX8 cI cJ cZ a8 S V) (some (.int u)) (zwX8 cI cJ cZ a8 S V) := by
  refine z_body (cc := cX8_renewed) (maxL := 6) (rty := (some .int)) (own := RX8) (lv := [(0, .ref (a8 0)), (1, .int x1), (2, .int x2), (3, .int x3), (4, .int x4)]) (by decide +kernel) rfl rfl (Nat.le_of_ble_eq_true rfl) rfl (fun p e s m args below meth c A C => ?_)
  refine z_aload_n C dX8_renewed_0 rfl 0 rfl ?_
  refine z_get (ref := "SecretBrokerModel") (v := .int (S 1 0)) C hX8_renewed_X8 0 rfl rfl 1 (by decide) kX8_renewed_104 (fun _ h9 => h9) rfl dX8_renewed_1 ?_
  refine z_iload C dX8_renewed_4 4 rfl ?_
  refine z_iadd C dX8_renewed_6 ?_
  refine z_iload_n C dX8_renewed_7 rfl 1 rfl ?_
  refine z_iload_n C dX8_renewed_8 rfl 3 rfl ?_
  refine z_iadd C dX8_renewed_9 ?_
  refine z_icmp_ge (tgt := 23) C dX8_renewed_10 (by decide) (fun c1 => ?_) (fun c1 => ?_)
  · have hF := zif hF c1
    refine z_iload_n C dX8_renewed_23 rfl 1 rfl ?_
    refine z_iload_n C dX8_renewed_24 rfl 3 rfl ?_
    refine z_iadd C dX8_renewed_25 ?_
    refine z_istore (lv' := [(5, .int (x1 + x3)), (0, .ref (a8 0)), (1, .int x1), (2, .int x2), (3, .int x3), (4, .int x4)]) C dX8_renewed_26 (by decide) rfl ?_
    refine z_iload C dX8_renewed_28 0 rfl ?_
    refine z_iload_n C dX8_renewed_30 rfl 3 rfl ?_
    refine z_icmp_le (tgt := 39) C dX8_renewed_31 (by decide) (fun c2 => ?_) (fun c2 => ?_)
    · have hF := zif hF c2
      refine z_iload_n C dX8_renewed_39 rfl 3 rfl ?_
      have hu := Option.some.inj hF
      subst hu
      exact z_iret C dX8_renewed_40 rfl rfl
    · have hF := zelse hF c2
      refine z_iload C dX8_renewed_34 0 rfl ?_
      refine z_goto (tgt := 40) C dX8_renewed_36 (by decide) ?_
      have hu := Option.some.inj hF
      subst hu
      exact z_iret C dX8_renewed_40 rfl rfl
  · have hF := zelse hF c1
    refine z_aload_n C dX8_renewed_13 rfl 0 rfl ?_
    refine z_get (ref := "SecretBrokerModel") (v := .int (S 1 0)) C hX8_renewed_X8 0 rfl rfl 1 (by decide) kX8_renewed_104 (fun _ h9 => h9) rfl dX8_renewed_14 ?_
    refine z_iload C dX8_renewed_17 4 rfl ?_
    refine z_iadd C dX8_renewed_19 ?_
    refine z_goto (tgt := 26) C dX8_renewed_20 (by decide) ?_
    refine z_istore (lv' := [(5, .int ((S 1 0) + x4)), (0, .ref (a8 0)), (1, .int x1), (2, .int x2), (3, .int x3), (4, .int x4)]) C dX8_renewed_26 (by decide) rfl ?_
    refine z_iload C dX8_renewed_28 0 rfl ?_
    refine z_iload_n C dX8_renewed_30 rfl 3 rfl ?_
    refine z_icmp_le (tgt := 39) C dX8_renewed_31 (by decide) (fun c3 => ?_) (fun c3 => ?_)
    · have hF := zif hF c3
      refine z_iload_n C dX8_renewed_39 rfl 3 rfl ?_
      have hu := Option.some.inj hF
      subst hu
      exact z_iret C dX8_renewed_40 rfl rfl
    · have hF := zelse hF c3
      refine z_iload C dX8_renewed_34 0 rfl ?_
      refine z_goto (tgt := 40) C dX8_renewed_36 (by decide) ?_
      have hu := Option.some.inj hF
      subst hu
      exact z_iret C dX8_renewed_40 rfl rfl
theorem kX8_asksLiving_88 : Cond.fieldLink RX8 88 "SecretBrokerModel" "thrown" "I" ∈ wsX8_asksLiving := by decide +kernel
theorem kX8_asksLiving_36 : Cond.fieldLink RX8 36 "SecretBrokerModel" "isAlive" "[Z" ∈ wsX8_asksLiving := by decide +kernel
theorem hX8_asksLiving_X8 : ∀ w ∈ wsX80, w ∈ wsX8_asksLiving := by decide +kernel
set_option maxHeartbeats 4000000 in
set_option maxRecDepth 100000 in
theorem c_X8_asksLiving (l : Launch) (D : va_G) (cI cJ cZ : ClassId) (a8 : Nat → Nat) (S : SS) (V : SL) (x1 : Int32) (u : SS) (hF : f_X8_asksLiving S x1 = some u) : zM l yX8_asksLiving wsX8_asksLiving ({ frames := 1, cells := 0, slots := 0, locals := 21 }) D (zTy cI cJ cZ) [.ref (a8 0), .int x1] (zwX8 cI cJ cZ a8 S V) none (zwX8 cI cJ cZ a8 u V) := by
  refine z_body (cc := cX8_asksLiving) (maxL := 2) (rty := none) (own := RX8) (lv := [(0, .ref (a8 0)), (1, .int x1)]) (by decide +kernel) rfl rfl (Nat.le_of_ble_eq_true rfl) rfl (fun p e s m args below meth c A C => ?_)
  refine z_aload_n C dX8_asksLiving_0 rfl 0 rfl ?_
  refine z_aload_n C dX8_asksLiving_1 rfl 0 rfl ?_
  refine z_iload_n C dX8_asksLiving_2 rfl 1 rfl ?_
  obtain ⟨r1, er1, hF⟩ := zbd hF
  refine z_callV (n := 1) (As := [.int x1]) (ws' := (zwX8 cI cJ cZ a8 S V)) C (c_X8_wasMade l D cI cJ cZ a8 S V x1 r1 er1) gX8_asksLiving_X8_wasMade rfl rfl rfl (by decide +kernel) ⟨Nat.le_of_ble_eq_true rfl, Nat.le_of_ble_eq_true rfl⟩ ⟨Nat.zero_le _, Nat.zero_le _⟩ 0 rfl rfl [] [] rfl rfl rfl rfl (Nat.le_of_ble_eq_true rfl) dX8_asksLiving_3 ?_
  refine z_if_ne (tgt := 13) C dX8_asksLiving_6 (by decide) (fun c2 => ?_) (fun c2 => ?_)
  · have hF := zelse hF c2
    refine z_iload_n C dX8_asksLiving_13 rfl 1 rfl ?_
    refine z_if_eq (tgt := 26) C dX8_asksLiving_14 (by decide) (fun c3 => ?_) (fun c3 => ?_)
    · have hF := zif hF c3
      refine z_iconst (v := 2) C dX8_asksLiving_26 (by decide) ?_
      refine z_goto (tgt := 31) C dX8_asksLiving_27 (by decide) ?_
      refine z_put (ws' := (zwX8 cI cJ cZ a8 (zs S 0 2) V)) (ref := "SecretBrokerModel") (ty := .int) C hX8_asksLiving_X8 tyX8 tyX8_ok nmX8 0 rfl rfl 0 (by decide) kX8_asksLiving_88 (fun _ h9 => h9) rfl (by decide +kernel) rfl rfl (Nat.le_of_ble_eq_true rfl) dX8_asksLiving_31 (zs_val S 0 2) (zf_X8_0 cI cJ cZ a8 S V 2) ?_
      have hu := Option.some.inj hF
      subst hu
      exact z_vret C dX8_asksLiving_34 rfl
    · have hF := zelse hF c3
      refine z_aload_n C dX8_asksLiving_17 rfl 0 rfl ?_
      refine z_get (ref := "SecretBrokerModel") (v := .ref (a8 8)) C hX8_asksLiving_X8 0 rfl rfl 12 (by decide) kX8_asksLiving_36 (fun _ h9 => h9) rfl dX8_asksLiving_18 ?_
      refine z_iload_n C dX8_asksLiving_21 rfl 1 rfl ?_
      obtain ⟨g4, hF⟩ := zix_some hF
      refine z_zald (v := ((S 12) x1.toNatClampNeg)) C g4 8 rfl rfl rfl dX8_asksLiving_22 ?_
      refine z_if_ne (tgt := 30) C dX8_asksLiving_23 (by decide) (fun c5 => ?_) (fun c5 => ?_)
      · have hF := zelse hF c5
        refine z_iconst (v := 0) C dX8_asksLiving_30 (by decide) ?_
        refine z_put (ws' := (zwX8 cI cJ cZ a8 (zs S 0 0) V)) (ref := "SecretBrokerModel") (ty := .int) C hX8_asksLiving_X8 tyX8 tyX8_ok nmX8 0 rfl rfl 0 (by decide) kX8_asksLiving_88 (fun _ h9 => h9) rfl (by decide +kernel) rfl rfl (Nat.le_of_ble_eq_true rfl) dX8_asksLiving_31 (zs_val S 0 0) (zf_X8_0 cI cJ cZ a8 S V 0) ?_
        have hu := Option.some.inj hF
        subst hu
        exact z_vret C dX8_asksLiving_34 rfl
      · have hF := zif hF c5
        refine z_iconst (v := 2) C dX8_asksLiving_26 (by decide) ?_
        refine z_goto (tgt := 31) C dX8_asksLiving_27 (by decide) ?_
        refine z_put (ws' := (zwX8 cI cJ cZ a8 (zs S 0 2) V)) (ref := "SecretBrokerModel") (ty := .int) C hX8_asksLiving_X8 tyX8 tyX8_ok nmX8 0 rfl rfl 0 (by decide) kX8_asksLiving_88 (fun _ h9 => h9) rfl (by decide +kernel) rfl rfl (Nat.le_of_ble_eq_true rfl) dX8_asksLiving_31 (zs_val S 0 2) (zf_X8_0 cI cJ cZ a8 S V 2) ?_
        have hu := Option.some.inj hF
        subst hu
        exact z_vret C dX8_asksLiving_34 rfl
  · have hF := zif hF c2
    refine z_iconst (v := 1) C dX8_asksLiving_9 (by decide) ?_
    refine z_goto (tgt := 31) C dX8_asksLiving_10 (by decide) ?_
    refine z_put (ws' := (zwX8 cI cJ cZ a8 (zs S 0 1) V)) (ref := "SecretBrokerModel") (ty := .int) C hX8_asksLiving_X8 tyX8 tyX8_ok nmX8 0 rfl rfl 0 (by decide) kX8_asksLiving_88 (fun _ h9 => h9) rfl (by decide +kernel) rfl rfl (Nat.le_of_ble_eq_true rfl) dX8_asksLiving_31 (zs_val S 0 1) (zf_X8_0 cI cJ cZ a8 S V 1) ?_
    have hu := Option.some.inj hF
    subst hu
    exact z_vret C dX8_asksLiving_34 rfl
theorem kX8_renew_88 : Cond.fieldLink RX8 88 "SecretBrokerModel" "thrown" "I" ∈ wsX8_renew := by decide +kernel
theorem kX8_renew_48 : Cond.fieldLink RX8 48 "SecretBrokerModel" "end" "[I" ∈ wsX8_renew := by decide +kernel
theorem kX8_renew_45 : Cond.fieldLink RX8 45 "SecretBrokerModel" "begin" "[I" ∈ wsX8_renew := by decide +kernel
theorem kX8_renew_51 : Cond.fieldLink RX8 51 "SecretBrokerModel" "bound" "[I" ∈ wsX8_renew := by decide +kernel
theorem hX8_renew_X8 : ∀ w ∈ wsX80, w ∈ wsX8_renew := by decide +kernel
set_option maxHeartbeats 4000000 in
set_option maxRecDepth 100000 in
theorem c_X8_renew_j47 (l : Launch) (D : va_G) (cI cJ cZ : ClassId) (a8 : Nat → Nat) (S : SS) (V : SL) (u : Int32 × SS × SL) {p : Program} {e : Env} {s : State} {m : MethodId} {args : Array Value} {below : List Frame} {meth : Method} {c : Code} {A : Nat → Prop} (C : zC p s m args meth c cX8_renew 3 (some .int) RX8 wsX8_renew D (zTy cI cJ cZ) A s.heap) : ∀ (Sc : SS) (Vc : SL) (v1 : Int32) (v2 : Int32) (s1 : Int32), f_X8_renew_47 Sc Vc v1 v2 s1 = some u → zW p l e { frames := 2, cells := 0, slots := 0, locals := 42 } s m args below meth c 3 D A s.heap 0 0 (MQ below (zQ D (zTy cI cJ cZ) (some (.int u.1)) (zwX8 cI cJ cZ a8 u.2.1 u.2.2) A) args s 0 0 A) (zwX8 cI cJ cZ a8 Sc Vc) [(0, .ref (a8 0)), (1, .int v1), (2, .int v2)] 47 [.int s1, .ref (a8 0)] := by
  intro Sc Vc v1 v2 s1 hF
  refine z_put (ws' := (zwX8 cI cJ cZ a8 (zs Sc 0 s1) Vc)) (ref := "SecretBrokerModel") (ty := .int) C hX8_renew_X8 tyX8 tyX8_ok nmX8 0 rfl rfl 0 (by decide) kX8_renew_88 (fun _ h9 => h9) rfl (by decide +kernel) rfl rfl (Nat.le_of_ble_eq_true rfl) dX8_renew_47 (zs_val Sc 0 s1) (zf_X8_0 cI cJ cZ a8 Sc Vc s1) ?_
  refine z_aload_n C dX8_renew_50 rfl 0 rfl ?_
  refine z_get (ref := "SecretBrokerModel") (v := .int ((zs Sc 0 s1) 0 0)) C hX8_renew_X8 0 rfl rfl 0 (by decide) kX8_renew_88 (fun _ h9 => h9) rfl dX8_renew_51 ?_
  refine z_if_le (tgt := 59) C dX8_renew_54 (by decide) (fun c4 => ?_) (fun c4 => ?_)
  · have hF := zif hF c4
    refine z_aload_n C dX8_renew_59 rfl 0 rfl ?_
    refine z_get (ref := "SecretBrokerModel") (v := .ref (a8 12)) C hX8_renew_X8 0 rfl rfl 16 (by decide) kX8_renew_48 (fun _ h9 => h9) rfl dX8_renew_60 ?_
    refine z_iload_n C dX8_renew_63 rfl 1 rfl ?_
    refine z_aload_n C dX8_renew_64 rfl 0 rfl ?_
    refine z_aload_n C dX8_renew_65 rfl 0 rfl ?_
    refine z_get (ref := "SecretBrokerModel") (v := .ref (a8 11)) C hX8_renew_X8 0 rfl rfl 15 (by decide) kX8_renew_45 (fun _ h9 => h9) rfl dX8_renew_66 ?_
    refine z_iload_n C dX8_renew_69 rfl 1 rfl ?_
    obtain ⟨g5, hF⟩ := zix_some hF
    refine z_iald (v := ((Sc 15) v1.toNatClampNeg)) C g5 11 rfl rfl rfl dX8_renew_70 ?_
    refine z_aload_n C dX8_renew_71 rfl 0 rfl ?_
    refine z_get (ref := "SecretBrokerModel") (v := .ref (a8 12)) C hX8_renew_X8 0 rfl rfl 16 (by decide) kX8_renew_48 (fun _ h9 => h9) rfl dX8_renew_72 ?_
    refine z_iload_n C dX8_renew_75 rfl 1 rfl ?_
    obtain ⟨g6, hF⟩ := zix_some hF
    refine z_iald (v := ((Sc 16) v1.toNatClampNeg)) C g6 12 rfl rfl rfl dX8_renew_76 ?_
    refine z_aload_n C dX8_renew_77 rfl 0 rfl ?_
    refine z_get (ref := "SecretBrokerModel") (v := .ref (a8 13)) C hX8_renew_X8 0 rfl rfl 17 (by decide) kX8_renew_51 (fun _ h9 => h9) rfl dX8_renew_78 ?_
    refine z_iload_n C dX8_renew_81 rfl 1 rfl ?_
    obtain ⟨g7, hF⟩ := zix_some hF
    refine z_iald (v := ((Sc 17) v1.toNatClampNeg)) C g7 13 rfl rfl rfl dX8_renew_82 ?_
    refine z_iload_n C dX8_renew_83 rfl 2 rfl ?_
    obtain ⟨r8, er8, hF⟩ := zbd hF
    refine z_callV (n := 4) (As := [.int ((Sc 15) v1.toNatClampNeg), .int ((Sc 16) v1.toNatClampNeg), .int ((Sc 17) v1.toNatClampNeg), .int v2]) (ws' := (zwX8 cI cJ cZ a8 (zs Sc 0 s1) Vc)) C (c_X8_renewed l D cI cJ cZ a8 (zs Sc 0 s1) Vc ((Sc 15) v1.toNatClampNeg) ((Sc 16) v1.toNatClampNeg) ((Sc 17) v1.toNatClampNeg) v2 r8 er8) gX8_renew_X8_renewed rfl rfl rfl (by decide +kernel) ⟨Nat.le_of_ble_eq_true rfl, Nat.le_of_ble_eq_true rfl⟩ ⟨Nat.zero_le _, Nat.zero_le _⟩ 0 rfl rfl [] [] rfl rfl rfl rfl (Nat.le_of_ble_eq_true rfl) dX8_renew_84 ?_
    obtain ⟨g9, hF⟩ := zix_some hF
    refine z_iast (ws' := (zwX8 cI cJ cZ a8 (za (zs Sc 0 s1) 16 v1 r8) Vc)) C g9 12 rfl rfl dX8_renew_87 (za_row (zs Sc 0 s1) 16 v1 r8) (zr_X8_16 cI cJ cZ a8 (zs Sc 0 s1) Vc v1 r8) ?_
    refine z_aload_n C dX8_renew_88 rfl 0 rfl ?_
    refine z_iconst (v := 1) C dX8_renew_89 (by decide) ?_
    refine z_iload_n C dX8_renew_90 rfl 1 rfl ?_
    refine z_aload_n C dX8_renew_91 rfl 0 rfl ?_
    refine z_get (ref := "SecretBrokerModel") (v := .ref (a8 12)) C hX8_renew_X8 0 rfl rfl 16 (by decide) kX8_renew_48 (fun _ h9 => h9) rfl dX8_renew_92 ?_
    refine z_iload_n C dX8_renew_95 rfl 1 rfl ?_
    obtain ⟨g10, hF⟩ := zix_some hF
    refine z_iald (v := (((za (zs Sc 0 s1) 16 v1 r8) 16) v1.toNatClampNeg)) C g10 12 rfl rfl rfl dX8_renew_96 ?_
    obtain ⟨r11, er11, hF⟩ := zbd hF
    refine z_callV (n := 3) (As := [.int 1, .int v1, .int (((za (zs Sc 0 s1) 16 v1 r8) 16) v1.toNatClampNeg)]) (ws' := (zwX8 cI cJ cZ a8 r11.1 r11.2)) C (c_X8_writes l D cI cJ cZ a8 (za (zs Sc 0 s1) 16 v1 r8) Vc 1 v1 (((za (zs Sc 0 s1) 16 v1 r8) 16) v1.toNatClampNeg) r11 er11) gX8_renew_X8_writes rfl rfl rfl (by decide +kernel) ⟨Nat.le_of_ble_eq_true rfl, Nat.le_of_ble_eq_true rfl⟩ ⟨Nat.zero_le _, Nat.zero_le _⟩ 0 rfl rfl [] [] rfl rfl rfl rfl (Nat.le_of_ble_eq_true rfl) dX8_renew_97 ?_
    refine z_aload_n C dX8_renew_100 rfl 0 rfl ?_
    refine z_get (ref := "SecretBrokerModel") (v := .ref (a8 12)) C hX8_renew_X8 0 rfl rfl 16 (by decide) kX8_renew_48 (fun _ h9 => h9) rfl dX8_renew_101 ?_
    refine z_iload_n C dX8_renew_104 rfl 1 rfl ?_
    obtain ⟨g12, hF⟩ := zix_some hF
    refine z_iald (v := ((r11.1 16) v1.toNatClampNeg)) C g12 12 rfl rfl rfl dX8_renew_105 ?_
    have hu := Option.some.inj hF
    subst hu
    exact z_iret C dX8_renew_106 rfl rfl
  · have hF := zelse hF c4
    refine z_iconst (v := 0) C dX8_renew_57 (by decide) ?_
    have hu := Option.some.inj hF
    subst hu
    exact z_iret C dX8_renew_58 rfl rfl
set_option maxHeartbeats 4000000 in
set_option maxRecDepth 100000 in
theorem c_X8_renew_j30 (l : Launch) (D : va_G) (cI cJ cZ : ClassId) (a8 : Nat → Nat) (S : SS) (V : SL) (u : Int32 × SS × SL) {p : Program} {e : Env} {s : State} {m : MethodId} {args : Array Value} {below : List Frame} {meth : Method} {c : Code} {A : Nat → Prop} (C : zC p s m args meth c cX8_renew 3 (some .int) RX8 wsX8_renew D (zTy cI cJ cZ) A s.heap) : ∀ (Sc : SS) (Vc : SL) (v1 : Int32) (v2 : Int32), f_X8_renew_30 Sc Vc v1 v2 = some u → zW p l e { frames := 2, cells := 0, slots := 0, locals := 42 } s m args below meth c 3 D A s.heap 0 0 (MQ below (zQ D (zTy cI cJ cZ) (some (.int u.1)) (zwX8 cI cJ cZ a8 u.2.1 u.2.2) A) args s 0 0 A) (zwX8 cI cJ cZ a8 Sc Vc) [(0, .ref (a8 0)), (1, .int v1), (2, .int v2)] 30 [.ref (a8 0)] := by
  intro Sc Vc v1 v2 hF
  refine z_iconst (v := 2) C dX8_renew_30 (by decide) ?_
  refine z_goto (tgt := 47) C dX8_renew_31 (by decide) ?_
  exact c_X8_renew_j47 l D cI cJ cZ a8 S V u C Sc Vc v1 v2 2 hF
set_option maxHeartbeats 4000000 in
set_option maxRecDepth 100000 in
theorem c_X8_renew (l : Launch) (D : va_G) (cI cJ cZ : ClassId) (a8 : Nat → Nat) (S : SS) (V : SL) (x1 : Int32) (x2 : Int32) (u : Int32 × SS × SL) (hF : f_X8_renew S V x1 x2 = some u) : zM l yX8_renew wsX8_renew ({ frames := 2, cells := 0, slots := 0, locals := 42 }) D (zTy cI cJ cZ) [.ref (a8 0), .int x1, .int x2] (zwX8 cI cJ cZ a8 S V) (some (.int u.1)) (zwX8 cI cJ cZ a8 u.2.1 u.2.2) := by
  refine z_body (cc := cX8_renew) (maxL := 3) (rty := (some .int)) (own := RX8) (lv := [(0, .ref (a8 0)), (1, .int x1), (2, .int x2)]) (by decide +kernel) rfl rfl (Nat.le_of_ble_eq_true rfl) rfl (fun p e s m args below meth c A C => ?_)
  refine z_aload_n C dX8_renew_0 rfl 0 rfl ?_
  refine z_iload_n C dX8_renew_1 rfl 1 rfl ?_
  obtain ⟨r1, er1, hF⟩ := zbd hF
  refine z_callV (n := 1) (As := [.int x1]) (ws' := (zwX8 cI cJ cZ a8 r1 V)) C (c_X8_asksLiving l D cI cJ cZ a8 S V x1 r1 er1) gX8_renew_X8_asksLiving rfl rfl rfl (by decide +kernel) ⟨Nat.le_of_ble_eq_true rfl, Nat.le_of_ble_eq_true rfl⟩ ⟨Nat.zero_le _, Nat.zero_le _⟩ 0 rfl rfl [] [] rfl rfl rfl rfl (Nat.le_of_ble_eq_true rfl) dX8_renew_2 ?_
  refine z_aload_n C dX8_renew_5 rfl 0 rfl ?_
  refine z_aload_n C dX8_renew_6 rfl 0 rfl ?_
  refine z_get (ref := "SecretBrokerModel") (v := .int (r1 0 0)) C hX8_renew_X8 0 rfl rfl 0 (by decide) kX8_renew_88 (fun _ h9 => h9) rfl dX8_renew_7 ?_
  refine z_iconst (v := 1) C dX8_renew_10 (by decide) ?_
  refine z_icmp_ne (tgt := 18) C dX8_renew_11 (by decide) (fun c2 => ?_) (fun c2 => ?_)
  · have hF := zelse hF c2
    refine z_iload_n C dX8_renew_18 rfl 2 rfl ?_
    refine z_iconst (v := 1) C dX8_renew_19 (by decide) ?_
    refine z_icmp_lt (tgt := 30) C dX8_renew_20 (by decide) (fun c3 => ?_) (fun c3 => ?_)
    · have hF := zif hF c3
      exact c_X8_renew_j30 l D cI cJ cZ a8 S V u C r1 V x1 x2 hF
    · have hF := zelse hF c3
      refine z_iload_n C dX8_renew_23 rfl 2 rfl ?_
      refine z_sipush (v := 1000) C dX8_renew_24 (by decide) ?_
      refine z_icmp_le (tgt := 34) C dX8_renew_27 (by decide) (fun c13 => ?_) (fun c13 => ?_)
      · have hF := zif hF c13
        refine z_aload_n C dX8_renew_34 rfl 0 rfl ?_
        refine z_get (ref := "SecretBrokerModel") (v := .int (r1 0 0)) C hX8_renew_X8 0 rfl rfl 0 (by decide) kX8_renew_88 (fun _ h9 => h9) rfl dX8_renew_35 ?_
        refine z_iconst (v := 2) C dX8_renew_38 (by decide) ?_
        refine z_icmp_ne (tgt := 46) C dX8_renew_39 (by decide) (fun c14 => ?_) (fun c14 => ?_)
        · have hF := zelse hF c14
          refine z_iconst (v := 0) C dX8_renew_46 (by decide) ?_
          exact c_X8_renew_j47 l D cI cJ cZ a8 S V u C r1 V x1 x2 0 hF
        · have hF := zif hF c14
          refine z_iconst (v := 3) C dX8_renew_42 (by decide) ?_
          refine z_goto (tgt := 47) C dX8_renew_43 (by decide) ?_
          exact c_X8_renew_j47 l D cI cJ cZ a8 S V u C r1 V x1 x2 3 hF
      · have hF := zelse hF c13
        exact c_X8_renew_j30 l D cI cJ cZ a8 S V u C r1 V x1 x2 hF
  · have hF := zif hF c2
    refine z_iconst (v := 1) C dX8_renew_14 (by decide) ?_
    refine z_goto (tgt := 47) C dX8_renew_15 (by decide) ?_
    exact c_X8_renew_j47 l D cI cJ cZ a8 S V u C r1 V x1 x2 1 hF
theorem kX8_revoke_88 : Cond.fieldLink RX8 88 "SecretBrokerModel" "thrown" "I" ∈ wsX8_revoke := by decide +kernel
theorem kX8_revoke_36 : Cond.fieldLink RX8 36 "SecretBrokerModel" "isAlive" "[Z" ∈ wsX8_revoke := by decide +kernel
theorem hX8_revoke_X8 : ∀ w ∈ wsX80, w ∈ wsX8_revoke := by decide +kernel
set_option maxHeartbeats 4000000 in
set_option maxRecDepth 100000 in
theorem c_X8_revoke (l : Launch) (D : va_G) (cI cJ cZ : ClassId) (a8 : Nat → Nat) (S : SS) (V : SL) (x1 : Int32) (u : Int32 × SS × SL) (hF : f_X8_revoke S V x1 = some u) : zM l yX8_revoke wsX8_revoke ({ frames := 2, cells := 0, slots := 0, locals := 42 }) D (zTy cI cJ cZ) [.ref (a8 0), .int x1] (zwX8 cI cJ cZ a8 S V) (some (.int u.1)) (zwX8 cI cJ cZ a8 u.2.1 u.2.2) := by
  refine z_body (cc := cX8_revoke) (maxL := 3) (rty := (some .int)) (own := RX8) (lv := [(0, .ref (a8 0)), (1, .int x1)]) (by decide +kernel) rfl rfl (Nat.le_of_ble_eq_true rfl) rfl (fun p e s m args below meth c A C => ?_)
  refine z_aload_n C dX8_revoke_0 rfl 0 rfl ?_
  refine z_iload_n C dX8_revoke_1 rfl 1 rfl ?_
  obtain ⟨r1, er1, hF⟩ := zbd hF
  refine z_callV (n := 1) (As := [.int x1]) (ws' := (zwX8 cI cJ cZ a8 r1 V)) C (c_X8_asksLiving l D cI cJ cZ a8 S V x1 r1 er1) gX8_revoke_X8_asksLiving rfl rfl rfl (by decide +kernel) ⟨Nat.le_of_ble_eq_true rfl, Nat.le_of_ble_eq_true rfl⟩ ⟨Nat.zero_le _, Nat.zero_le _⟩ 0 rfl rfl [] [] rfl rfl rfl rfl (Nat.le_of_ble_eq_true rfl) dX8_revoke_2 ?_
  refine z_aload_n C dX8_revoke_5 rfl 0 rfl ?_
  refine z_get (ref := "SecretBrokerModel") (v := .int (r1 0 0)) C hX8_revoke_X8 0 rfl rfl 0 (by decide) kX8_revoke_88 (fun _ h9 => h9) rfl dX8_revoke_6 ?_
  refine z_if_le (tgt := 14) C dX8_revoke_9 (by decide) (fun c2 => ?_) (fun c2 => ?_)
  · have hF := zif hF c2
    refine z_aload_n C dX8_revoke_14 rfl 0 rfl ?_
    refine z_get (ref := "SecretBrokerModel") (v := .ref (a8 8)) C hX8_revoke_X8 0 rfl rfl 12 (by decide) kX8_revoke_36 (fun _ h9 => h9) rfl dX8_revoke_15 ?_
    refine z_iload_n C dX8_revoke_18 rfl 1 rfl ?_
    refine z_iconst (v := 0) C dX8_revoke_19 (by decide) ?_
    obtain ⟨g3, hF⟩ := zix_some hF
    refine z_zast (ws' := (zwX8 cI cJ cZ a8 (za r1 12 x1 (vp_nar .boolean 0)) V)) C g3 8 rfl rfl dX8_revoke_20 (za_row r1 12 x1 (vp_nar .boolean 0)) (zr_X8_12 cI cJ cZ a8 r1 V x1 (vp_nar .boolean 0)) ?_
    refine z_iconst (v := 1) C dX8_revoke_21 (by decide) ?_
    refine z_aload_n C dX8_revoke_22 rfl 0 rfl ?_
    obtain ⟨r4, er4, hF⟩ := zbd hF
    refine z_callV (n := 0) (As := []) (ws' := (zwX8 cI cJ cZ a8 r4.2 V)) C (c_X8_ceases l D cI cJ cZ a8 (za r1 12 x1 (vp_nar .boolean 0)) V r4 er4) gX8_revoke_X8_ceases rfl rfl rfl (by decide +kernel) ⟨Nat.le_of_ble_eq_true rfl, Nat.le_of_ble_eq_true rfl⟩ ⟨Nat.zero_le _, Nat.zero_le _⟩ 0 rfl rfl [] [] rfl rfl rfl rfl (Nat.le_of_ble_eq_true rfl) dX8_revoke_23 ?_
    refine z_iadd C dX8_revoke_26 ?_
    refine z_istore_n (lv' := [(2, .int (1 + r4.1)), (0, .ref (a8 0)), (1, .int x1)]) C dX8_revoke_27 rfl (by decide) rfl ?_
    refine z_aload_n C dX8_revoke_28 rfl 1 rfl ?_
    refine z_iconst (v := 4) C dX8_revoke_29 (by decide) ?_
    refine z_iload_n C dX8_revoke_30 rfl 2 rfl ?_
    refine z_iload_n C dX8_revoke_31 rfl 0 rfl ?_
    obtain ⟨r5, er5, hF⟩ := zbd hF
    refine z_callV (n := 3) (As := [.int 4, .int x1, .int (1 + r4.1)]) (ws' := (zwX8 cI cJ cZ a8 r5.1 r5.2)) C (c_X8_writes l D cI cJ cZ a8 r4.2 V 4 x1 (1 + r4.1) r5 er5) gX8_revoke_X8_writes rfl rfl rfl (by decide +kernel) ⟨Nat.le_of_ble_eq_true rfl, Nat.le_of_ble_eq_true rfl⟩ ⟨Nat.zero_le _, Nat.zero_le _⟩ 0 rfl rfl [] [] rfl rfl rfl rfl (Nat.le_of_ble_eq_true rfl) dX8_revoke_32 ?_
    refine z_iload_n C dX8_revoke_35 rfl 0 rfl ?_
    have hu := Option.some.inj hF
    subst hu
    exact z_iret C dX8_revoke_36 rfl rfl
  · have hF := zelse hF c2
    refine z_iconst (v := 0) C dX8_revoke_12 (by decide) ?_
    have hu := Option.some.inj hF
    subst hu
    exact z_iret C dX8_revoke_13 rfl rfl
theorem kX8_revokeAlone_88 : Cond.fieldLink RX8 88 "SecretBrokerModel" "thrown" "I" ∈ wsX8_revokeAlone := by decide +kernel
theorem kX8_revokeAlone_32 : Cond.fieldLink RX8 32 "SecretBrokerModel" "made" "I" ∈ wsX8_revokeAlone := by decide +kernel
theorem kX8_revokeAlone_36 : Cond.fieldLink RX8 36 "SecretBrokerModel" "isAlive" "[Z" ∈ wsX8_revokeAlone := by decide +kernel
theorem kX8_revokeAlone_39 : Cond.fieldLink RX8 39 "SecretBrokerModel" "parent" "[I" ∈ wsX8_revokeAlone := by decide +kernel
theorem hX8_revokeAlone_X8 : ∀ w ∈ wsX80, w ∈ wsX8_revokeAlone := by decide +kernel
set_option maxHeartbeats 4000000 in
set_option maxRecDepth 100000 in
theorem c_X8_revokeAlone_j16 (l : Launch) (D : va_G) (cI cJ cZ : ClassId) (a8 : Nat → Nat) (S : SS) (V : SL) (u : Int32 × SS × SL) {p : Program} {e : Env} {s : State} {m : MethodId} {args : Array Value} {below : List Frame} {meth : Method} {c : Code} {A : Nat → Prop} (C : zC p s m args meth c cX8_revokeAlone 3 (some .int) RX8 wsX8_revokeAlone D (zTy cI cJ cZ) A s.heap) : ∀ (n : Nat) (Sc : SS) (Vc : SL) (v1 : Int32) (v2 : Int32), f_X8_revokeAlone_16 n Sc Vc v1 v2 = some u → zW p l e { frames := 2, cells := 0, slots := 0, locals := 42 } s m args below meth c 3 D A s.heap 0 0 (MQ below (zQ D (zTy cI cJ cZ) (some (.int u.1)) (zwX8 cI cJ cZ a8 u.2.1 u.2.2) A) args s 0 0 A) (zwX8 cI cJ cZ a8 Sc Vc) [(0, .ref (a8 0)), (1, .int v1), (2, .int v2)] 16 [] := by
  intro n
  induction n with
  | zero => intro Sc Vc v1 v2 hF; exact absurd (show none = some u from hF) (fun q => nomatch q)
  | succ n ih =>
    intro Sc Vc v1 v2 hF
    refine z_iload_n C dX8_revokeAlone_16 rfl 2 rfl ?_
    refine z_aload_n C dX8_revokeAlone_17 rfl 0 rfl ?_
    refine z_get (ref := "SecretBrokerModel") (v := .int (Sc 11 0)) C hX8_revokeAlone_X8 0 rfl rfl 11 (by decide) kX8_revokeAlone_32 (fun _ h9 => h9) rfl dX8_revokeAlone_18 ?_
    refine z_icmp_ge (tgt := 65) C dX8_revokeAlone_21 (by decide) (fun c3 => ?_) (fun c3 => ?_)
    · have hF := zif hF c3
      refine z_aload_n C dX8_revokeAlone_65 rfl 0 rfl ?_
      refine z_get (ref := "SecretBrokerModel") (v := .ref (a8 8)) C hX8_revokeAlone_X8 0 rfl rfl 12 (by decide) kX8_revokeAlone_36 (fun _ h9 => h9) rfl dX8_revokeAlone_66 ?_
      refine z_iload_n C dX8_revokeAlone_69 rfl 1 rfl ?_
      refine z_iconst (v := 0) C dX8_revokeAlone_70 (by decide) ?_
      obtain ⟨g4, hF⟩ := zix_some hF
      refine z_zast (ws' := (zwX8 cI cJ cZ a8 (za Sc 12 v1 (vp_nar .boolean 0)) Vc)) C g4 8 rfl rfl dX8_revokeAlone_71 (za_row Sc 12 v1 (vp_nar .boolean 0)) (zr_X8_12 cI cJ cZ a8 Sc Vc v1 (vp_nar .boolean 0)) ?_
      refine z_iconst (v := 1) C dX8_revokeAlone_72 (by decide) ?_
      refine z_aload_n C dX8_revokeAlone_73 rfl 0 rfl ?_
      obtain ⟨r5, er5, hF⟩ := zbd hF
      refine z_callV (n := 0) (As := []) (ws' := (zwX8 cI cJ cZ a8 r5.2 Vc)) C (c_X8_ceases l D cI cJ cZ a8 (za Sc 12 v1 (vp_nar .boolean 0)) Vc r5 er5) gX8_revokeAlone_X8_ceases rfl rfl rfl (by decide +kernel) ⟨Nat.le_of_ble_eq_true rfl, Nat.le_of_ble_eq_true rfl⟩ ⟨Nat.zero_le _, Nat.zero_le _⟩ 0 rfl rfl [] [] rfl rfl rfl rfl (Nat.le_of_ble_eq_true rfl) dX8_revokeAlone_74 ?_
      refine z_iadd C dX8_revokeAlone_77 ?_
      refine z_istore_n (lv' := [(2, .int (1 + r5.1)), (0, .ref (a8 0)), (1, .int v1)]) C dX8_revokeAlone_78 rfl (by decide) rfl ?_
      refine z_aload_n C dX8_revokeAlone_79 rfl 1 rfl ?_
      refine z_iconst (v := 4) C dX8_revokeAlone_80 (by decide) ?_
      refine z_iload_n C dX8_revokeAlone_81 rfl 2 rfl ?_
      refine z_iload_n C dX8_revokeAlone_82 rfl 0 rfl ?_
      obtain ⟨r6, er6, hF⟩ := zbd hF
      refine z_callV (n := 3) (As := [.int 4, .int v1, .int (1 + r5.1)]) (ws' := (zwX8 cI cJ cZ a8 r6.1 r6.2)) C (c_X8_writes l D cI cJ cZ a8 r5.2 Vc 4 v1 (1 + r5.1) r6 er6) gX8_revokeAlone_X8_writes rfl rfl rfl (by decide +kernel) ⟨Nat.le_of_ble_eq_true rfl, Nat.le_of_ble_eq_true rfl⟩ ⟨Nat.zero_le _, Nat.zero_le _⟩ 0 rfl rfl [] [] rfl rfl rfl rfl (Nat.le_of_ble_eq_true rfl) dX8_revokeAlone_83 ?_
      refine z_iload_n C dX8_revokeAlone_86 rfl 0 rfl ?_
      have hu := Option.some.inj hF
      subst hu
      exact z_iret C dX8_revokeAlone_87 rfl rfl
    · have hF := zelse hF c3
      refine z_aload_n C dX8_revokeAlone_24 rfl 0 rfl ?_
      refine z_get (ref := "SecretBrokerModel") (v := .ref (a8 9)) C hX8_revokeAlone_X8 0 rfl rfl 13 (by decide) kX8_revokeAlone_39 (fun _ h9 => h9) rfl dX8_revokeAlone_25 ?_
      refine z_iload_n C dX8_revokeAlone_28 rfl 2 rfl ?_
      refine z_aload_n C dX8_revokeAlone_29 rfl 0 rfl ?_
      refine z_get (ref := "SecretBrokerModel") (v := .ref (a8 8)) C hX8_revokeAlone_X8 0 rfl rfl 12 (by decide) kX8_revokeAlone_36 (fun _ h9 => h9) rfl dX8_revokeAlone_30 ?_
      refine z_iload_n C dX8_revokeAlone_33 rfl 2 rfl ?_
      obtain ⟨g7, hF⟩ := zix_some hF
      refine z_zald (v := ((Sc 12) v2.toNatClampNeg)) C g7 8 rfl rfl rfl dX8_revokeAlone_34 ?_
      refine z_if_eq (tgt := 52) C dX8_revokeAlone_35 (by decide) (fun c8 => ?_) (fun c8 => ?_)
      · have hF := zif hF c8
        refine z_aload_n C dX8_revokeAlone_52 rfl 0 rfl ?_
        refine z_get (ref := "SecretBrokerModel") (v := .ref (a8 9)) C hX8_revokeAlone_X8 0 rfl rfl 13 (by decide) kX8_revokeAlone_39 (fun _ h9 => h9) rfl dX8_revokeAlone_53 ?_
        refine z_iload_n C dX8_revokeAlone_56 rfl 2 rfl ?_
        obtain ⟨g9, hF⟩ := zix_some hF
        refine z_iald (v := ((Sc 13) v2.toNatClampNeg)) C g9 9 rfl rfl rfl dX8_revokeAlone_57 ?_
        obtain ⟨g10, hF⟩ := zix_some hF
        refine z_iast (ws' := (zwX8 cI cJ cZ a8 (za Sc 13 v2 ((Sc 13) v2.toNatClampNeg)) Vc)) C g10 9 rfl rfl dX8_revokeAlone_58 (za_row Sc 13 v2 ((Sc 13) v2.toNatClampNeg)) (zr_X8_13 cI cJ cZ a8 Sc Vc v2 ((Sc 13) v2.toNatClampNeg)) ?_
        refine z_iinc (v := (v2 + 1)) (lv' := [(2, .int (v2 + 1)), (0, .ref (a8 0)), (1, .int v1)]) C dX8_revokeAlone_59 2 rfl rfl (by decide) rfl ?_
        refine z_goto (tgt := 16) C dX8_revokeAlone_62 (by decide) ?_
        exact z_sub C [1, 2, 0] rfl (ih (za Sc 13 v2 ((Sc 13) v2.toNatClampNeg)) Vc v1 (v2 + 1) hF)
      · have hF := zelse hF c8
        refine z_aload_n C dX8_revokeAlone_38 rfl 0 rfl ?_
        refine z_get (ref := "SecretBrokerModel") (v := .ref (a8 9)) C hX8_revokeAlone_X8 0 rfl rfl 13 (by decide) kX8_revokeAlone_39 (fun _ h9 => h9) rfl dX8_revokeAlone_39 ?_
        refine z_iload_n C dX8_revokeAlone_42 rfl 2 rfl ?_
        obtain ⟨g11, hF⟩ := zix_some hF
        refine z_iald (v := ((Sc 13) v2.toNatClampNeg)) C g11 9 rfl rfl rfl dX8_revokeAlone_43 ?_
        refine z_iload_n C dX8_revokeAlone_44 rfl 1 rfl ?_
        refine z_icmp_ne (tgt := 52) C dX8_revokeAlone_45 (by decide) (fun c12 => ?_) (fun c12 => ?_)
        · have hF := zelse hF c12
          refine z_aload_n C dX8_revokeAlone_52 rfl 0 rfl ?_
          refine z_get (ref := "SecretBrokerModel") (v := .ref (a8 9)) C hX8_revokeAlone_X8 0 rfl rfl 13 (by decide) kX8_revokeAlone_39 (fun _ h9 => h9) rfl dX8_revokeAlone_53 ?_
          refine z_iload_n C dX8_revokeAlone_56 rfl 2 rfl ?_
          obtain ⟨g13, hF⟩ := zix_some hF
          refine z_iald (v := ((Sc 13) v2.toNatClampNeg)) C g13 9 rfl rfl rfl dX8_revokeAlone_57 ?_
          obtain ⟨g14, hF⟩ := zix_some hF
          refine z_iast (ws' := (zwX8 cI cJ cZ a8 (za Sc 13 v2 ((Sc 13) v2.toNatClampNeg)) Vc)) C g14 9 rfl rfl dX8_revokeAlone_58 (za_row Sc 13 v2 ((Sc 13) v2.toNatClampNeg)) (zr_X8_13 cI cJ cZ a8 Sc Vc v2 ((Sc 13) v2.toNatClampNeg)) ?_
          refine z_iinc (v := (v2 + 1)) (lv' := [(2, .int (v2 + 1)), (0, .ref (a8 0)), (1, .int v1)]) C dX8_revokeAlone_59 2 rfl rfl (by decide) rfl ?_
          refine z_goto (tgt := 16) C dX8_revokeAlone_62 (by decide) ?_
          exact z_sub C [1, 2, 0] rfl (ih (za Sc 13 v2 ((Sc 13) v2.toNatClampNeg)) Vc v1 (v2 + 1) hF)
        · have hF := zif hF c12
          refine z_iconst (v := (-1)) C dX8_revokeAlone_48 (by decide) ?_
          refine z_goto (tgt := 58) C dX8_revokeAlone_49 (by decide) ?_
          obtain ⟨g15, hF⟩ := zix_some hF
          refine z_iast (ws' := (zwX8 cI cJ cZ a8 (za Sc 13 v2 (-1)) Vc)) C g15 9 rfl rfl dX8_revokeAlone_58 (za_row Sc 13 v2 (-1)) (zr_X8_13 cI cJ cZ a8 Sc Vc v2 (-1)) ?_
          refine z_iinc (v := (v2 + 1)) (lv' := [(2, .int (v2 + 1)), (0, .ref (a8 0)), (1, .int v1)]) C dX8_revokeAlone_59 2 rfl rfl (by decide) rfl ?_
          refine z_goto (tgt := 16) C dX8_revokeAlone_62 (by decide) ?_
          exact z_sub C [1, 2, 0] rfl (ih (za Sc 13 v2 (-1)) Vc v1 (v2 + 1) hF)
set_option maxHeartbeats 4000000 in
set_option maxRecDepth 100000 in
theorem c_X8_revokeAlone (l : Launch) (D : va_G) (cI cJ cZ : ClassId) (a8 : Nat → Nat) (S : SS) (V : SL) (x1 : Int32) (u : Int32 × SS × SL) (hF : f_X8_revokeAlone S V x1 = some u) : zM l yX8_revokeAlone wsX8_revokeAlone ({ frames := 2, cells := 0, slots := 0, locals := 42 }) D (zTy cI cJ cZ) [.ref (a8 0), .int x1] (zwX8 cI cJ cZ a8 S V) (some (.int u.1)) (zwX8 cI cJ cZ a8 u.2.1 u.2.2) := by
  refine z_body (cc := cX8_revokeAlone) (maxL := 3) (rty := (some .int)) (own := RX8) (lv := [(0, .ref (a8 0)), (1, .int x1)]) (by decide +kernel) rfl rfl (Nat.le_of_ble_eq_true rfl) rfl (fun p e s m args below meth c A C => ?_)
  refine z_aload_n C dX8_revokeAlone_0 rfl 0 rfl ?_
  refine z_iload_n C dX8_revokeAlone_1 rfl 1 rfl ?_
  obtain ⟨r1, er1, hF⟩ := zbd hF
  refine z_callV (n := 1) (As := [.int x1]) (ws' := (zwX8 cI cJ cZ a8 r1 V)) C (c_X8_asksLiving l D cI cJ cZ a8 S V x1 r1 er1) gX8_revokeAlone_X8_asksLiving rfl rfl rfl (by decide +kernel) ⟨Nat.le_of_ble_eq_true rfl, Nat.le_of_ble_eq_true rfl⟩ ⟨Nat.zero_le _, Nat.zero_le _⟩ 0 rfl rfl [] [] rfl rfl rfl rfl (Nat.le_of_ble_eq_true rfl) dX8_revokeAlone_2 ?_
  refine z_aload_n C dX8_revokeAlone_5 rfl 0 rfl ?_
  refine z_get (ref := "SecretBrokerModel") (v := .int (r1 0 0)) C hX8_revokeAlone_X8 0 rfl rfl 0 (by decide) kX8_revokeAlone_88 (fun _ h9 => h9) rfl dX8_revokeAlone_6 ?_
  refine z_if_le (tgt := 14) C dX8_revokeAlone_9 (by decide) (fun c2 => ?_) (fun c2 => ?_)
  · have hF := zif hF c2
    refine z_iconst (v := 1) C dX8_revokeAlone_14 (by decide) ?_
    refine z_istore_n (lv' := [(2, .int 1), (0, .ref (a8 0)), (1, .int x1)]) C dX8_revokeAlone_15 rfl (by decide) rfl ?_
    exact z_sub C [1, 2, 0] rfl (c_X8_revokeAlone_j16 l D cI cJ cZ a8 S V u C 600 r1 V x1 1 hF)
  · have hF := zelse hF c2
    refine z_iconst (v := 0) C dX8_revokeAlone_12 (by decide) ?_
    have hu := Option.some.inj hF
    subst hu
    exact z_iret C dX8_revokeAlone_13 rfl rfl
theorem kX8_asks_88 : Cond.fieldLink RX8 88 "SecretBrokerModel" "thrown" "I" ∈ wsX8_asks := by decide +kernel
theorem hX8_asks_X8 : ∀ w ∈ wsX80, w ∈ wsX8_asks := by decide +kernel
set_option maxHeartbeats 4000000 in
set_option maxRecDepth 100000 in
theorem c_X8_asks (l : Launch) (D : va_G) (cI cJ cZ : ClassId) (a8 : Nat → Nat) (S : SS) (V : SL) (x1 : Int32) (u : Int32 × SS) (hF : f_X8_asks S x1 = some u) : zM l yX8_asks wsX8_asks ({ frames := 1, cells := 0, slots := 0, locals := 21 }) D (zTy cI cJ cZ) [.ref (a8 0), .int x1] (zwX8 cI cJ cZ a8 S V) (some (.int u.1)) (zwX8 cI cJ cZ a8 u.2 V) := by
  refine z_body (cc := cX8_asks) (maxL := 2) (rty := (some .boolean)) (own := RX8) (lv := [(0, .ref (a8 0)), (1, .int x1)]) (by decide +kernel) rfl rfl (Nat.le_of_ble_eq_true rfl) rfl (fun p e s m args below meth c A C => ?_)
  refine z_aload_n C dX8_asks_0 rfl 0 rfl ?_
  refine z_aload_n C dX8_asks_1 rfl 0 rfl ?_
  refine z_iload_n C dX8_asks_2 rfl 1 rfl ?_
  obtain ⟨r1, er1, hF⟩ := zbd hF
  refine z_callV (n := 1) (As := [.int x1]) (ws' := (zwX8 cI cJ cZ a8 S V)) C (c_X8_wasMade l D cI cJ cZ a8 S V x1 r1 er1) gX8_asks_X8_wasMade rfl rfl rfl (by decide +kernel) ⟨Nat.le_of_ble_eq_true rfl, Nat.le_of_ble_eq_true rfl⟩ ⟨Nat.zero_le _, Nat.zero_le _⟩ 0 rfl rfl [] [] rfl rfl rfl rfl (Nat.le_of_ble_eq_true rfl) dX8_asks_3 ?_
  refine z_if_eq (tgt := 13) C dX8_asks_6 (by decide) (fun c2 => ?_) (fun c2 => ?_)
  · have hF := zif hF c2
    refine z_iconst (v := 1) C dX8_asks_13 (by decide) ?_
    refine z_put (ws' := (zwX8 cI cJ cZ a8 (zs S 0 1) V)) (ref := "SecretBrokerModel") (ty := .int) C hX8_asks_X8 tyX8 tyX8_ok nmX8 0 rfl rfl 0 (by decide) kX8_asks_88 (fun _ h9 => h9) rfl (by decide +kernel) rfl rfl (Nat.le_of_ble_eq_true rfl) dX8_asks_14 (zs_val S 0 1) (zf_X8_0 cI cJ cZ a8 S V 1) ?_
    refine z_aload_n C dX8_asks_17 rfl 0 rfl ?_
    refine z_get (ref := "SecretBrokerModel") (v := .int ((zs S 0 1) 0 0)) C hX8_asks_X8 0 rfl rfl 0 (by decide) kX8_asks_88 (fun _ h9 => h9) rfl dX8_asks_18 ?_
    refine z_if_ne (tgt := 28) C dX8_asks_21 (by decide) (fun c3 => ?_) (fun c3 => ?_)
    · have hF := zelse hF c3
      refine z_iconst (v := 0) C dX8_asks_28 (by decide) ?_
      have hu := Option.some.inj hF
      subst hu
      exact z_iret C dX8_asks_29 rfl z_b0
    · have hF := zif hF c3
      refine z_iconst (v := 1) C dX8_asks_24 (by decide) ?_
      refine z_goto (tgt := 29) C dX8_asks_25 (by decide) ?_
      have hu := Option.some.inj hF
      subst hu
      exact z_iret C dX8_asks_29 rfl z_b1
  · have hF := zelse hF c2
    refine z_iconst (v := 0) C dX8_asks_9 (by decide) ?_
    refine z_goto (tgt := 14) C dX8_asks_10 (by decide) ?_
    refine z_put (ws' := (zwX8 cI cJ cZ a8 (zs S 0 0) V)) (ref := "SecretBrokerModel") (ty := .int) C hX8_asks_X8 tyX8 tyX8_ok nmX8 0 rfl rfl 0 (by decide) kX8_asks_88 (fun _ h9 => h9) rfl (by decide +kernel) rfl rfl (Nat.le_of_ble_eq_true rfl) dX8_asks_14 (zs_val S 0 0) (zf_X8_0 cI cJ cZ a8 S V 0) ?_
    refine z_aload_n C dX8_asks_17 rfl 0 rfl ?_
    refine z_get (ref := "SecretBrokerModel") (v := .int ((zs S 0 0) 0 0)) C hX8_asks_X8 0 rfl rfl 0 (by decide) kX8_asks_88 (fun _ h9 => h9) rfl dX8_asks_18 ?_
    refine z_if_ne (tgt := 28) C dX8_asks_21 (by decide) (fun c4 => ?_) (fun c4 => ?_)
    · have hF := zelse hF c4
      refine z_iconst (v := 0) C dX8_asks_28 (by decide) ?_
      have hu := Option.some.inj hF
      subst hu
      exact z_iret C dX8_asks_29 rfl z_b0
    · have hF := zif hF c4
      refine z_iconst (v := 1) C dX8_asks_24 (by decide) ?_
      refine z_goto (tgt := 29) C dX8_asks_25 (by decide) ?_
      have hu := Option.some.inj hF
      subst hu
      exact z_iret C dX8_asks_29 rfl z_b1
theorem kX8_isAlive_36 : Cond.fieldLink RX8 36 "SecretBrokerModel" "isAlive" "[Z" ∈ wsX8_isAlive := by decide +kernel
theorem hX8_isAlive_X8 : ∀ w ∈ wsX80, w ∈ wsX8_isAlive := by decide +kernel
set_option maxHeartbeats 4000000 in
set_option maxRecDepth 100000 in
theorem c_X8_isAlive (l : Launch) (D : va_G) (cI cJ cZ : ClassId) (a8 : Nat → Nat) (S : SS) (V : SL) (x1 : Int32) (u : Int32 × SS) (hF : f_X8_isAlive S x1 = some u) : zM l yX8_isAlive wsX8_isAlive ({ frames := 2, cells := 0, slots := 0, locals := 42 }) D (zTy cI cJ cZ) [.ref (a8 0), .int x1] (zwX8 cI cJ cZ a8 S V) (some (.int u.1)) (zwX8 cI cJ cZ a8 u.2 V) := by
  refine z_body (cc := cX8_isAlive) (maxL := 2) (rty := (some .boolean)) (own := RX8) (lv := [(0, .ref (a8 0)), (1, .int x1)]) (by decide +kernel) rfl rfl (Nat.le_of_ble_eq_true rfl) rfl (fun p e s m args below meth c A C => ?_)
  refine z_aload_n C dX8_isAlive_0 rfl 0 rfl ?_
  refine z_iload_n C dX8_isAlive_1 rfl 1 rfl ?_
  obtain ⟨r1, er1, hF⟩ := zbd hF
  refine z_callV (n := 1) (As := [.int x1]) (ws' := (zwX8 cI cJ cZ a8 r1.2 V)) C (c_X8_asks l D cI cJ cZ a8 S V x1 r1 er1) gX8_isAlive_X8_asks rfl rfl rfl (by decide +kernel) ⟨Nat.le_of_ble_eq_true rfl, Nat.le_of_ble_eq_true rfl⟩ ⟨Nat.zero_le _, Nat.zero_le _⟩ 0 rfl rfl [] [] rfl rfl rfl rfl (Nat.le_of_ble_eq_true rfl) dX8_isAlive_2 ?_
  refine z_if_eq (tgt := 21) C dX8_isAlive_5 (by decide) (fun c2 => ?_) (fun c2 => ?_)
  · have hF := zif hF c2
    refine z_iconst (v := 0) C dX8_isAlive_21 (by decide) ?_
    have hu := Option.some.inj hF
    subst hu
    exact z_iret C dX8_isAlive_22 rfl z_b0
  · have hF := zelse hF c2
    refine z_aload_n C dX8_isAlive_8 rfl 0 rfl ?_
    refine z_get (ref := "SecretBrokerModel") (v := .ref (a8 8)) C hX8_isAlive_X8 0 rfl rfl 12 (by decide) kX8_isAlive_36 (fun _ h9 => h9) rfl dX8_isAlive_9 ?_
    refine z_iload_n C dX8_isAlive_12 rfl 1 rfl ?_
    obtain ⟨g3, hF⟩ := zix_some hF
    refine z_zald (v := ((r1.2 12) x1.toNatClampNeg)) C g3 8 rfl rfl rfl dX8_isAlive_13 ?_
    refine z_if_eq (tgt := 21) C dX8_isAlive_14 (by decide) (fun c4 => ?_) (fun c4 => ?_)
    · have hF := zif hF c4
      refine z_iconst (v := 0) C dX8_isAlive_21 (by decide) ?_
      have hu := Option.some.inj hF
      subst hu
      exact z_iret C dX8_isAlive_22 rfl z_b0
    · have hF := zelse hF c4
      refine z_iconst (v := 1) C dX8_isAlive_17 (by decide) ?_
      refine z_goto (tgt := 22) C dX8_isAlive_18 (by decide) ?_
      have hu := Option.some.inj hF
      subst hu
      exact z_iret C dX8_isAlive_22 rfl z_b1
theorem kX8_parentOf_39 : Cond.fieldLink RX8 39 "SecretBrokerModel" "parent" "[I" ∈ wsX8_parentOf := by decide +kernel
theorem hX8_parentOf_X8 : ∀ w ∈ wsX80, w ∈ wsX8_parentOf := by decide +kernel
set_option maxHeartbeats 4000000 in
set_option maxRecDepth 100000 in
theorem c_X8_parentOf (l : Launch) (D : va_G) (cI cJ cZ : ClassId) (a8 : Nat → Nat) (S : SS) (V : SL) (x1 : Int32) (u : Int32 × SS) (hF : f_X8_parentOf S x1 = some u) : zM l yX8_parentOf wsX8_parentOf ({ frames := 2, cells := 0, slots := 0, locals := 42 }) D (zTy cI cJ cZ) [.ref (a8 0), .int x1] (zwX8 cI cJ cZ a8 S V) (some (.int u.1)) (zwX8 cI cJ cZ a8 u.2 V) := by
  refine z_body (cc := cX8_parentOf) (maxL := 2) (rty := (some .int)) (own := RX8) (lv := [(0, .ref (a8 0)), (1, .int x1)]) (by decide +kernel) rfl rfl (Nat.le_of_ble_eq_true rfl) rfl (fun p e s m args below meth c A C => ?_)
  refine z_aload_n C dX8_parentOf_0 rfl 0 rfl ?_
  refine z_iload_n C dX8_parentOf_1 rfl 1 rfl ?_
  obtain ⟨r1, er1, hF⟩ := zbd hF
  refine z_callV (n := 1) (As := [.int x1]) (ws' := (zwX8 cI cJ cZ a8 r1.2 V)) C (c_X8_asks l D cI cJ cZ a8 S V x1 r1 er1) gX8_parentOf_X8_asks rfl rfl rfl (by decide +kernel) ⟨Nat.le_of_ble_eq_true rfl, Nat.le_of_ble_eq_true rfl⟩ ⟨Nat.zero_le _, Nat.zero_le _⟩ 0 rfl rfl [] [] rfl rfl rfl rfl (Nat.le_of_ble_eq_true rfl) dX8_parentOf_2 ?_
  refine z_if_eq (tgt := 17) C dX8_parentOf_5 (by decide) (fun c2 => ?_) (fun c2 => ?_)
  · have hF := zif hF c2
    refine z_iconst (v := 0) C dX8_parentOf_17 (by decide) ?_
    have hu := Option.some.inj hF
    subst hu
    exact z_iret C dX8_parentOf_18 rfl rfl
  · have hF := zelse hF c2
    refine z_aload_n C dX8_parentOf_8 rfl 0 rfl ?_
    refine z_get (ref := "SecretBrokerModel") (v := .ref (a8 9)) C hX8_parentOf_X8 0 rfl rfl 13 (by decide) kX8_parentOf_39 (fun _ h9 => h9) rfl dX8_parentOf_9 ?_
    refine z_iload_n C dX8_parentOf_12 rfl 1 rfl ?_
    obtain ⟨g3, hF⟩ := zix_some hF
    refine z_iald (v := ((r1.2 13) x1.toNatClampNeg)) C g3 9 rfl rfl rfl dX8_parentOf_13 ?_
    refine z_goto (tgt := 18) C dX8_parentOf_14 (by decide) ?_
    have hu := Option.some.inj hF
    subst hu
    exact z_iret C dX8_parentOf_18 rfl rfl
theorem kX8_endOf_48 : Cond.fieldLink RX8 48 "SecretBrokerModel" "end" "[I" ∈ wsX8_endOf := by decide +kernel
theorem hX8_endOf_X8 : ∀ w ∈ wsX80, w ∈ wsX8_endOf := by decide +kernel
set_option maxHeartbeats 4000000 in
set_option maxRecDepth 100000 in
theorem c_X8_endOf (l : Launch) (D : va_G) (cI cJ cZ : ClassId) (a8 : Nat → Nat) (S : SS) (V : SL) (x1 : Int32) (u : Int32 × SS) (hF : f_X8_endOf S x1 = some u) : zM l yX8_endOf wsX8_endOf ({ frames := 2, cells := 0, slots := 0, locals := 42 }) D (zTy cI cJ cZ) [.ref (a8 0), .int x1] (zwX8 cI cJ cZ a8 S V) (some (.int u.1)) (zwX8 cI cJ cZ a8 u.2 V) := by
  refine z_body (cc := cX8_endOf) (maxL := 2) (rty := (some .int)) (own := RX8) (lv := [(0, .ref (a8 0)), (1, .int x1)]) (by decide +kernel) rfl rfl (Nat.le_of_ble_eq_true rfl) rfl (fun p e s m args below meth c A C => ?_)
  refine z_aload_n C dX8_endOf_0 rfl 0 rfl ?_
  refine z_iload_n C dX8_endOf_1 rfl 1 rfl ?_
  obtain ⟨r1, er1, hF⟩ := zbd hF
  refine z_callV (n := 1) (As := [.int x1]) (ws' := (zwX8 cI cJ cZ a8 r1.2 V)) C (c_X8_asks l D cI cJ cZ a8 S V x1 r1 er1) gX8_endOf_X8_asks rfl rfl rfl (by decide +kernel) ⟨Nat.le_of_ble_eq_true rfl, Nat.le_of_ble_eq_true rfl⟩ ⟨Nat.zero_le _, Nat.zero_le _⟩ 0 rfl rfl [] [] rfl rfl rfl rfl (Nat.le_of_ble_eq_true rfl) dX8_endOf_2 ?_
  refine z_if_eq (tgt := 17) C dX8_endOf_5 (by decide) (fun c2 => ?_) (fun c2 => ?_)
  · have hF := zif hF c2
    refine z_iconst (v := 0) C dX8_endOf_17 (by decide) ?_
    have hu := Option.some.inj hF
    subst hu
    exact z_iret C dX8_endOf_18 rfl rfl
  · have hF := zelse hF c2
    refine z_aload_n C dX8_endOf_8 rfl 0 rfl ?_
    refine z_get (ref := "SecretBrokerModel") (v := .ref (a8 12)) C hX8_endOf_X8 0 rfl rfl 16 (by decide) kX8_endOf_48 (fun _ h9 => h9) rfl dX8_endOf_9 ?_
    refine z_iload_n C dX8_endOf_12 rfl 1 rfl ?_
    obtain ⟨g3, hF⟩ := zix_some hF
    refine z_iald (v := ((r1.2 16) x1.toNatClampNeg)) C g3 12 rfl rfl rfl dX8_endOf_13 ?_
    refine z_goto (tgt := 18) C dX8_endOf_14 (by decide) ?_
    have hu := Option.some.inj hF
    subst hu
    exact z_iret C dX8_endOf_18 rfl rfl
theorem kX8_usesLeft_54 : Cond.fieldLink RX8 54 "SecretBrokerModel" "uses" "[I" ∈ wsX8_usesLeft := by decide +kernel
theorem hX8_usesLeft_X8 : ∀ w ∈ wsX80, w ∈ wsX8_usesLeft := by decide +kernel
set_option maxHeartbeats 4000000 in
set_option maxRecDepth 100000 in
theorem c_X8_usesLeft (l : Launch) (D : va_G) (cI cJ cZ : ClassId) (a8 : Nat → Nat) (S : SS) (V : SL) (x1 : Int32) (u : Int32 × SS) (hF : f_X8_usesLeft S x1 = some u) : zM l yX8_usesLeft wsX8_usesLeft ({ frames := 2, cells := 0, slots := 0, locals := 42 }) D (zTy cI cJ cZ) [.ref (a8 0), .int x1] (zwX8 cI cJ cZ a8 S V) (some (.int u.1)) (zwX8 cI cJ cZ a8 u.2 V) := by
  refine z_body (cc := cX8_usesLeft) (maxL := 2) (rty := (some .int)) (own := RX8) (lv := [(0, .ref (a8 0)), (1, .int x1)]) (by decide +kernel) rfl rfl (Nat.le_of_ble_eq_true rfl) rfl (fun p e s m args below meth c A C => ?_)
  refine z_aload_n C dX8_usesLeft_0 rfl 0 rfl ?_
  refine z_iload_n C dX8_usesLeft_1 rfl 1 rfl ?_
  obtain ⟨r1, er1, hF⟩ := zbd hF
  refine z_callV (n := 1) (As := [.int x1]) (ws' := (zwX8 cI cJ cZ a8 r1.2 V)) C (c_X8_asks l D cI cJ cZ a8 S V x1 r1 er1) gX8_usesLeft_X8_asks rfl rfl rfl (by decide +kernel) ⟨Nat.le_of_ble_eq_true rfl, Nat.le_of_ble_eq_true rfl⟩ ⟨Nat.zero_le _, Nat.zero_le _⟩ 0 rfl rfl [] [] rfl rfl rfl rfl (Nat.le_of_ble_eq_true rfl) dX8_usesLeft_2 ?_
  refine z_if_eq (tgt := 17) C dX8_usesLeft_5 (by decide) (fun c2 => ?_) (fun c2 => ?_)
  · have hF := zif hF c2
    refine z_iconst (v := 0) C dX8_usesLeft_17 (by decide) ?_
    have hu := Option.some.inj hF
    subst hu
    exact z_iret C dX8_usesLeft_18 rfl rfl
  · have hF := zelse hF c2
    refine z_aload_n C dX8_usesLeft_8 rfl 0 rfl ?_
    refine z_get (ref := "SecretBrokerModel") (v := .ref (a8 14)) C hX8_usesLeft_X8 0 rfl rfl 18 (by decide) kX8_usesLeft_54 (fun _ h9 => h9) rfl dX8_usesLeft_9 ?_
    refine z_iload_n C dX8_usesLeft_12 rfl 1 rfl ?_
    obtain ⟨g3, hF⟩ := zix_some hF
    refine z_iald (v := ((r1.2 18) x1.toNatClampNeg)) C g3 14 rfl rfl rfl dX8_usesLeft_13 ?_
    refine z_goto (tgt := 18) C dX8_usesLeft_14 (by decide) ?_
    have hu := Option.some.inj hF
    subst hu
    exact z_iret C dX8_usesLeft_18 rfl rfl
theorem kX8_below_32 : Cond.fieldLink RX8 32 "SecretBrokerModel" "made" "I" ∈ wsX8_below := by decide +kernel
theorem kX8_below_36 : Cond.fieldLink RX8 36 "SecretBrokerModel" "isAlive" "[Z" ∈ wsX8_below := by decide +kernel
theorem kX8_below_39 : Cond.fieldLink RX8 39 "SecretBrokerModel" "parent" "[I" ∈ wsX8_below := by decide +kernel
theorem hX8_below_X8 : ∀ w ∈ wsX80, w ∈ wsX8_below := by decide +kernel
set_option maxHeartbeats 4000000 in
set_option maxRecDepth 100000 in
theorem c_X8_below_j42 (l : Launch) (D : va_G) (cI cJ cZ : ClassId) (a8 : Nat → Nat) (S : SS) (V : SL) (u : Int32 × SS) {p : Program} {e : Env} {s : State} {m : MethodId} {args : Array Value} {below : List Frame} {meth : Method} {c : Code} {A : Nat → Prop} (C : zC p s m args meth c cX8_below 5 (some .int) RX8 wsX8_below D (zTy cI cJ cZ) A s.heap) : ∀ (k9 : SS → Int32 → Int32 → Int32 → Option (Int32 × SS)) (hk9 : ∀ (Sc : SS) (v1 : Int32) (v2 : Int32) (v3 : Int32), k9 Sc v1 v2 v3 = some u → zW p l e { frames := 2, cells := 0, slots := 0, locals := 42 } s m args below meth c 5 D A s.heap 0 0 (MQ below (zQ D (zTy cI cJ cZ) (some (.int u.1)) (zwX8 cI cJ cZ a8 u.2 V) A) args s 0 0 A) (zwX8 cI cJ cZ a8 Sc V) [(0, .ref (a8 0)), (1, .int v1), (2, .int v2), (3, .int v3)] 9 []), ∀ (n : Nat) (Sc : SS) (v1 : Int32) (v2 : Int32) (v3 : Int32) (v4 : Int32), f_X8_below_42 k9 n Sc v1 v2 v3 v4 = some u → zW p l e { frames := 2, cells := 0, slots := 0, locals := 42 } s m args below meth c 5 D A s.heap 0 0 (MQ below (zQ D (zTy cI cJ cZ) (some (.int u.1)) (zwX8 cI cJ cZ a8 u.2 V) A) args s 0 0 A) (zwX8 cI cJ cZ a8 Sc V) [(0, .ref (a8 0)), (1, .int v1), (2, .int v2), (3, .int v3), (4, .int v4)] 42 [] := by
  intro k9 hk9
  intro n
  induction n with
  | zero => intro Sc v1 v2 v3 v4 hF; exact absurd (show none = some u from hF) (fun q => nomatch q)
  | succ n ih =>
    intro Sc v1 v2 v3 v4 hF
    refine z_iload C dX8_below_42 4 rfl ?_
    refine z_iconst (v := (-1)) C dX8_below_44 (by decide) ?_
    refine z_icmp_eq (tgt := 66) C dX8_below_45 (by decide) (fun c6 => ?_) (fun c6 => ?_)
    · have hF := zif hF c6
      refine z_iload_n C dX8_below_66 rfl 2 rfl ?_
      refine z_iload C dX8_below_67 4 rfl ?_
      refine z_iload_n C dX8_below_69 rfl 1 rfl ?_
      refine z_icmp_ne (tgt := 77) C dX8_below_70 (by decide) (fun c7 => ?_) (fun c7 => ?_)
      · have hF := zelse hF c7
        refine z_iconst (v := 0) C dX8_below_77 (by decide) ?_
        refine z_iadd C dX8_below_78 ?_
        refine z_istore_n (lv' := [(2, .int (v2 + 0)), (0, .ref (a8 0)), (1, .int v1), (3, .int v3), (4, .int v4)]) C dX8_below_79 rfl (by decide) rfl ?_
        refine z_iinc (v := (v3 + (-1))) (lv' := [(3, .int (v3 + (-1))), (2, .int (v2 + 0)), (0, .ref (a8 0)), (1, .int v1), (4, .int v4)]) C dX8_below_80 3 rfl rfl (by decide) rfl ?_
        refine z_goto (tgt := 9) C dX8_below_83 (by decide) ?_
        exact z_sub C [2, 3, 1, 0] rfl (hk9 Sc v1 (v2 + 0) (v3 + (-1)) hF)
      · have hF := zif hF c7
        refine z_iconst (v := 1) C dX8_below_73 (by decide) ?_
        refine z_goto (tgt := 78) C dX8_below_74 (by decide) ?_
        refine z_iadd C dX8_below_78 ?_
        refine z_istore_n (lv' := [(2, .int (v2 + 1)), (0, .ref (a8 0)), (1, .int v1), (3, .int v3), (4, .int v4)]) C dX8_below_79 rfl (by decide) rfl ?_
        refine z_iinc (v := (v3 + (-1))) (lv' := [(3, .int (v3 + (-1))), (2, .int (v2 + 1)), (0, .ref (a8 0)), (1, .int v1), (4, .int v4)]) C dX8_below_80 3 rfl rfl (by decide) rfl ?_
        refine z_goto (tgt := 9) C dX8_below_83 (by decide) ?_
        exact z_sub C [2, 3, 1, 0] rfl (hk9 Sc v1 (v2 + 1) (v3 + (-1)) hF)
    · have hF := zelse hF c6
      refine z_iload C dX8_below_48 4 rfl ?_
      refine z_iload_n C dX8_below_50 rfl 1 rfl ?_
      refine z_icmp_eq (tgt := 66) C dX8_below_51 (by decide) (fun c8 => ?_) (fun c8 => ?_)
      · have hF := zif hF c8
        refine z_iload_n C dX8_below_66 rfl 2 rfl ?_
        refine z_iload C dX8_below_67 4 rfl ?_
        refine z_iload_n C dX8_below_69 rfl 1 rfl ?_
        refine z_icmp_ne (tgt := 77) C dX8_below_70 (by decide) (fun c9 => ?_) (fun c9 => ?_)
        · have hF := zelse hF c9
          refine z_iconst (v := 0) C dX8_below_77 (by decide) ?_
          refine z_iadd C dX8_below_78 ?_
          refine z_istore_n (lv' := [(2, .int (v2 + 0)), (0, .ref (a8 0)), (1, .int v1), (3, .int v3), (4, .int v4)]) C dX8_below_79 rfl (by decide) rfl ?_
          refine z_iinc (v := (v3 + (-1))) (lv' := [(3, .int (v3 + (-1))), (2, .int (v2 + 0)), (0, .ref (a8 0)), (1, .int v1), (4, .int v4)]) C dX8_below_80 3 rfl rfl (by decide) rfl ?_
          refine z_goto (tgt := 9) C dX8_below_83 (by decide) ?_
          exact z_sub C [2, 3, 1, 0] rfl (hk9 Sc v1 (v2 + 0) (v3 + (-1)) hF)
        · have hF := zif hF c9
          refine z_iconst (v := 1) C dX8_below_73 (by decide) ?_
          refine z_goto (tgt := 78) C dX8_below_74 (by decide) ?_
          refine z_iadd C dX8_below_78 ?_
          refine z_istore_n (lv' := [(2, .int (v2 + 1)), (0, .ref (a8 0)), (1, .int v1), (3, .int v3), (4, .int v4)]) C dX8_below_79 rfl (by decide) rfl ?_
          refine z_iinc (v := (v3 + (-1))) (lv' := [(3, .int (v3 + (-1))), (2, .int (v2 + 1)), (0, .ref (a8 0)), (1, .int v1), (4, .int v4)]) C dX8_below_80 3 rfl rfl (by decide) rfl ?_
          refine z_goto (tgt := 9) C dX8_below_83 (by decide) ?_
          exact z_sub C [2, 3, 1, 0] rfl (hk9 Sc v1 (v2 + 1) (v3 + (-1)) hF)
      · have hF := zelse hF c8
        refine z_aload_n C dX8_below_54 rfl 0 rfl ?_
        refine z_get (ref := "SecretBrokerModel") (v := .ref (a8 9)) C hX8_below_X8 0 rfl rfl 13 (by decide) kX8_below_39 (fun _ h9 => h9) rfl dX8_below_55 ?_
        refine z_iload C dX8_below_58 4 rfl ?_
        obtain ⟨g10, hF⟩ := zix_some hF
        refine z_iald (v := ((Sc 13) v4.toNatClampNeg)) C g10 9 rfl rfl rfl dX8_below_60 ?_
        refine z_istore (lv' := [(4, .int ((Sc 13) v4.toNatClampNeg)), (0, .ref (a8 0)), (1, .int v1), (2, .int v2), (3, .int v3)]) C dX8_below_61 (by decide) rfl ?_
        refine z_goto (tgt := 42) C dX8_below_63 (by decide) ?_
        exact z_sub C [1, 2, 3, 4, 0] rfl (ih Sc v1 v2 v3 ((Sc 13) v4.toNatClampNeg) hF)
set_option maxHeartbeats 4000000 in
set_option maxRecDepth 100000 in
theorem c_X8_below_j9 (l : Launch) (D : va_G) (cI cJ cZ : ClassId) (a8 : Nat → Nat) (S : SS) (V : SL) (u : Int32 × SS) {p : Program} {e : Env} {s : State} {m : MethodId} {args : Array Value} {below : List Frame} {meth : Method} {c : Code} {A : Nat → Prop} (C : zC p s m args meth c cX8_below 5 (some .int) RX8 wsX8_below D (zTy cI cJ cZ) A s.heap) : ∀ (n : Nat) (Sc : SS) (v1 : Int32) (v2 : Int32) (v3 : Int32), f_X8_below_9 n Sc v1 v2 v3 = some u → zW p l e { frames := 2, cells := 0, slots := 0, locals := 42 } s m args below meth c 5 D A s.heap 0 0 (MQ below (zQ D (zTy cI cJ cZ) (some (.int u.1)) (zwX8 cI cJ cZ a8 u.2 V) A) args s 0 0 A) (zwX8 cI cJ cZ a8 Sc V) [(0, .ref (a8 0)), (1, .int v1), (2, .int v2), (3, .int v3)] 9 [] := by
  intro n
  induction n with
  | zero => intro Sc v1 v2 v3 hF; exact absurd (show none = some u from hF) (fun q => nomatch q)
  | succ n ih =>
    intro Sc v1 v2 v3 hF
    refine z_iload_n C dX8_below_9 rfl 3 rfl ?_
    refine z_if_lt (tgt := 86) C dX8_below_10 (by decide) (fun c1 => ?_) (fun c1 => ?_)
    · have hF := zif hF c1
      refine z_iload_n C dX8_below_86 rfl 2 rfl ?_
      have hu := Option.some.inj hF
      subst hu
      exact z_iret C dX8_below_87 rfl rfl
    · have hF := zelse hF c1
      refine z_aload_n C dX8_below_13 rfl 0 rfl ?_
      refine z_iload_n C dX8_below_14 rfl 1 rfl ?_
      obtain ⟨r2, er2, hF⟩ := zbd hF
      refine z_callV (n := 1) (As := [.int v1]) (ws' := (zwX8 cI cJ cZ a8 r2.2 V)) C (c_X8_asks l D cI cJ cZ a8 Sc V v1 r2 er2) gX8_below_X8_asks rfl rfl rfl (by decide +kernel) ⟨Nat.le_of_ble_eq_true rfl, Nat.le_of_ble_eq_true rfl⟩ ⟨Nat.zero_le _, Nat.zero_le _⟩ 0 rfl rfl [] [] rfl rfl rfl rfl (Nat.le_of_ble_eq_true rfl) dX8_below_15 ?_
      refine z_if_eq (tgt := 86) C dX8_below_18 (by decide) (fun c3 => ?_) (fun c3 => ?_)
      · have hF := zif hF c3
        refine z_iload_n C dX8_below_86 rfl 2 rfl ?_
        have hu := Option.some.inj hF
        subst hu
        exact z_iret C dX8_below_87 rfl rfl
      · have hF := zelse hF c3
        refine z_aload_n C dX8_below_21 rfl 0 rfl ?_
        refine z_get (ref := "SecretBrokerModel") (v := .ref (a8 8)) C hX8_below_X8 0 rfl rfl 12 (by decide) kX8_below_36 (fun _ h9 => h9) rfl dX8_below_22 ?_
        refine z_iload_n C dX8_below_25 rfl 3 rfl ?_
        obtain ⟨g4, hF⟩ := zix_some hF
        refine z_zald (v := ((r2.2 12) v3.toNatClampNeg)) C g4 8 rfl rfl rfl dX8_below_26 ?_
        refine z_if_eq (tgt := 39) C dX8_below_27 (by decide) (fun c5 => ?_) (fun c5 => ?_)
        · have hF := zif hF c5
          refine z_iconst (v := (-1)) C dX8_below_39 (by decide) ?_
          refine z_istore (lv' := [(4, .int (-1)), (0, .ref (a8 0)), (1, .int v1), (2, .int v2), (3, .int v3)]) C dX8_below_40 (by decide) rfl ?_
          exact z_sub C [1, 2, 3, 4, 0] rfl (c_X8_below_j42 l D cI cJ cZ a8 S V u C (f_X8_below_9 n) (fun Sc_ v1_ v2_ v3_ hF => ih Sc_ v1_ v2_ v3_ hF) 600 r2.2 v1 v2 v3 (-1) hF)
        · have hF := zelse hF c5
          refine z_aload_n C dX8_below_30 rfl 0 rfl ?_
          refine z_get (ref := "SecretBrokerModel") (v := .ref (a8 9)) C hX8_below_X8 0 rfl rfl 13 (by decide) kX8_below_39 (fun _ h9 => h9) rfl dX8_below_31 ?_
          refine z_iload_n C dX8_below_34 rfl 3 rfl ?_
          obtain ⟨g11, hF⟩ := zix_some hF
          refine z_iald (v := ((r2.2 13) v3.toNatClampNeg)) C g11 9 rfl rfl rfl dX8_below_35 ?_
          refine z_goto (tgt := 40) C dX8_below_36 (by decide) ?_
          refine z_istore (lv' := [(4, .int ((r2.2 13) v3.toNatClampNeg)), (0, .ref (a8 0)), (1, .int v1), (2, .int v2), (3, .int v3)]) C dX8_below_40 (by decide) rfl ?_
          exact z_sub C [1, 2, 3, 4, 0] rfl (c_X8_below_j42 l D cI cJ cZ a8 S V u C (f_X8_below_9 n) (fun Sc_ v1_ v2_ v3_ hF => ih Sc_ v1_ v2_ v3_ hF) 600 r2.2 v1 v2 v3 ((r2.2 13) v3.toNatClampNeg) hF)
set_option maxHeartbeats 4000000 in
set_option maxRecDepth 100000 in
theorem c_X8_below (l : Launch) (D : va_G) (cI cJ cZ : ClassId) (a8 : Nat → Nat) (S : SS) (V : SL) (x1 : Int32) (u : Int32 × SS) (hF : f_X8_below S x1 = some u) : zM l yX8_below wsX8_below ({ frames := 2, cells := 0, slots := 0, locals := 42 }) D (zTy cI cJ cZ) [.ref (a8 0), .int x1] (zwX8 cI cJ cZ a8 S V) (some (.int u.1)) (zwX8 cI cJ cZ a8 u.2 V) := by
  refine z_body (cc := cX8_below) (maxL := 5) (rty := (some .int)) (own := RX8) (lv := [(0, .ref (a8 0)), (1, .int x1)]) (by decide +kernel) rfl rfl (Nat.le_of_ble_eq_true rfl) rfl (fun p e s m args below meth c A C => ?_)
  refine z_iconst (v := 0) C dX8_below_0 (by decide) ?_
  refine z_istore_n (lv' := [(2, .int 0), (0, .ref (a8 0)), (1, .int x1)]) C dX8_below_1 rfl (by decide) rfl ?_
  refine z_aload_n C dX8_below_2 rfl 1 rfl ?_
  refine z_get (ref := "SecretBrokerModel") (v := .int (S 11 0)) C hX8_below_X8 0 rfl rfl 11 (by decide) kX8_below_32 (fun _ h9 => h9) rfl dX8_below_3 ?_
  refine z_iconst (v := 1) C dX8_below_6 (by decide) ?_
  refine z_isub C dX8_below_7 ?_
  refine z_istore_n (lv' := [(3, .int ((S 11 0) - 1)), (2, .int 0), (0, .ref (a8 0)), (1, .int x1)]) C dX8_below_8 rfl (by decide) rfl ?_
  exact z_sub C [2, 3, 1, 0] rfl (c_X8_below_j9 l D cI cJ cZ a8 S V u C 600 S x1 0 ((S 11 0) - 1) hF)
theorem kX8_tokens_88 : Cond.fieldLink RX8 88 "SecretBrokerModel" "thrown" "I" ∈ wsX8_tokens := by decide +kernel
theorem hX8_tokens_X8 : ∀ w ∈ wsX80, w ∈ wsX8_tokens := by decide +kernel
set_option maxHeartbeats 4000000 in
set_option maxRecDepth 100000 in
theorem c_X8_tokens (l : Launch) (D : va_G) (cI cJ cZ : ClassId) (a8 : Nat → Nat) (S : SS) (V : SL) (u : Int32 × SS) (hF : f_X8_tokens S = some u) : zM l yX8_tokens wsX8_tokens ({ frames := 1, cells := 0, slots := 0, locals := 22 }) D (zTy cI cJ cZ) [.ref (a8 0)] (zwX8 cI cJ cZ a8 S V) (some (.int u.1)) (zwX8 cI cJ cZ a8 u.2 V) := by
  refine z_body (cc := cX8_tokens) (maxL := 1) (rty := (some .int)) (own := RX8) (lv := [(0, .ref (a8 0))]) (by decide +kernel) rfl rfl (Nat.le_of_ble_eq_true rfl) rfl (fun p e s m args below meth c A C => ?_)
  refine z_aload_n C dX8_tokens_0 rfl 0 rfl ?_
  refine z_iconst (v := 0) C dX8_tokens_1 (by decide) ?_
  refine z_put (ws' := (zwX8 cI cJ cZ a8 (zs S 0 0) V)) (ref := "SecretBrokerModel") (ty := .int) C hX8_tokens_X8 tyX8 tyX8_ok nmX8 0 rfl rfl 0 (by decide) kX8_tokens_88 (fun _ h9 => h9) rfl (by decide +kernel) rfl rfl (Nat.le_of_ble_eq_true rfl) dX8_tokens_2 (zs_val S 0 0) (zf_X8_0 cI cJ cZ a8 S V 0) ?_
  refine z_aload_n C dX8_tokens_5 rfl 0 rfl ?_
  obtain ⟨r1, er1, hF⟩ := zbd hF
  refine z_callV (n := 0) (As := []) (ws' := (zwX8 cI cJ cZ a8 (zs S 0 0) V)) C (c_X8_manyTokens l D cI cJ cZ a8 (zs S 0 0) V r1 er1) gX8_tokens_X8_manyTokens rfl rfl rfl (by decide +kernel) ⟨Nat.le_of_ble_eq_true rfl, Nat.le_of_ble_eq_true rfl⟩ ⟨Nat.zero_le _, Nat.zero_le _⟩ 0 rfl rfl [] [] rfl rfl rfl rfl (Nat.le_of_ble_eq_true rfl) dX8_tokens_6 ?_
  have hu := Option.some.inj hF
  subst hu
  exact z_iret C dX8_tokens_9 rfl rfl
theorem kX8_capabilities_88 : Cond.fieldLink RX8 88 "SecretBrokerModel" "thrown" "I" ∈ wsX8_capabilities := by decide +kernel
theorem hX8_capabilities_X8 : ∀ w ∈ wsX80, w ∈ wsX8_capabilities := by decide +kernel
set_option maxHeartbeats 4000000 in
set_option maxRecDepth 100000 in
theorem c_X8_capabilities (l : Launch) (D : va_G) (cI cJ cZ : ClassId) (a8 : Nat → Nat) (S : SS) (V : SL) (x1 : Int32) (x2 : Int32) (u : Int32 × SS) (hF : f_X8_capabilities S x1 x2 = some u) : zM l yX8_capabilities wsX8_capabilities ({ frames := 6, cells := 0, slots := 0, locals := 140 }) D (zTy cI cJ cZ) [.ref (a8 0), .int x1, .int x2] (zwX8 cI cJ cZ a8 S V) (some (.int u.1)) (zwX8 cI cJ cZ a8 u.2 V) := by
  refine z_body (cc := cX8_capabilities) (maxL := 3) (rty := (some .int)) (own := RX8) (lv := [(0, .ref (a8 0)), (1, .int x1), (2, .int x2)]) (by decide +kernel) rfl rfl (Nat.le_of_ble_eq_true rfl) rfl (fun p e s m args below meth c A C => ?_)
  refine z_aload_n C dX8_capabilities_0 rfl 0 rfl ?_
  refine z_aload_n C dX8_capabilities_1 rfl 0 rfl ?_
  refine z_iload_n C dX8_capabilities_2 rfl 1 rfl ?_
  obtain ⟨r1, er1, hF⟩ := zbd hF
  refine z_callV (n := 1) (As := [.int x1]) (ws' := (zwX8 cI cJ cZ a8 S V)) C (c_X8_wasMade l D cI cJ cZ a8 S V x1 r1 er1) gX8_capabilities_X8_wasMade rfl rfl rfl (by decide +kernel) ⟨Nat.le_of_ble_eq_true rfl, Nat.le_of_ble_eq_true rfl⟩ ⟨Nat.zero_le _, Nat.zero_le _⟩ 0 rfl rfl [] [] rfl rfl rfl rfl (Nat.le_of_ble_eq_true rfl) dX8_capabilities_3 ?_
  refine z_if_ne (tgt := 13) C dX8_capabilities_6 (by decide) (fun c2 => ?_) (fun c2 => ?_)
  · have hF := zelse hF c2
    refine z_iload_n C dX8_capabilities_13 rfl 2 rfl ?_
    obtain ⟨r3, er3, hF⟩ := zbd hF
    refine z_callS (n := 1) (As := [.int x2]) C (c_X8_isPath l D cI cJ cZ x2 r3 er3) gX8_capabilities_X8_isPath rfl rfl rfl (by decide +kernel) ⟨Nat.le_of_ble_eq_true rfl, Nat.le_of_ble_eq_true rfl⟩ ⟨Nat.zero_le _, Nat.zero_le _⟩ rfl rfl (Nat.le_of_ble_eq_true rfl) dX8_capabilities_14 ?_
    refine z_if_eq (tgt := 24) C dX8_capabilities_17 (by decide) (fun c4 => ?_) (fun c4 => ?_)
    · have hF := zif hF c4
      refine z_iconst (v := 2) C dX8_capabilities_24 (by decide) ?_
      refine z_put (ws' := (zwX8 cI cJ cZ a8 (zs S 0 2) V)) (ref := "SecretBrokerModel") (ty := .int) C hX8_capabilities_X8 tyX8 tyX8_ok nmX8 0 rfl rfl 0 (by decide) kX8_capabilities_88 (fun _ h9 => h9) rfl (by decide +kernel) rfl rfl (Nat.le_of_ble_eq_true rfl) dX8_capabilities_25 (zs_val S 0 2) (zf_X8_0 cI cJ cZ a8 S V 2) ?_
      refine z_aload_n C dX8_capabilities_28 rfl 0 rfl ?_
      refine z_get (ref := "SecretBrokerModel") (v := .int ((zs S 0 2) 0 0)) C hX8_capabilities_X8 0 rfl rfl 0 (by decide) kX8_capabilities_88 (fun _ h9 => h9) rfl dX8_capabilities_29 ?_
      refine z_if_le (tgt := 39) C dX8_capabilities_32 (by decide) (fun c5 => ?_) (fun c5 => ?_)
      · have hF := zif hF c5
        refine z_aload_n C dX8_capabilities_39 rfl 0 rfl ?_
        refine z_iload_n C dX8_capabilities_40 rfl 1 rfl ?_
        refine z_iload_n C dX8_capabilities_41 rfl 2 rfl ?_
        obtain ⟨r6, er6, hF⟩ := zbd hF
        refine z_callV (n := 2) (As := [.int x1, .int x2]) (ws' := (zwX8 cI cJ cZ a8 (zs S 0 2) V)) C (c_X8_can l D cI cJ cZ a8 (zs S 0 2) V x1 x2 r6 er6) gX8_capabilities_X8_can rfl rfl rfl (by decide +kernel) ⟨Nat.le_of_ble_eq_true rfl, Nat.le_of_ble_eq_true rfl⟩ ⟨Nat.zero_le _, Nat.zero_le _⟩ 0 rfl rfl [] [] rfl rfl rfl rfl (Nat.le_of_ble_eq_true rfl) dX8_capabilities_42 ?_
        have hu := Option.some.inj hF
        subst hu
        exact z_iret C dX8_capabilities_45 rfl rfl
      · have hF := zelse hF c5
        refine z_iconst (v := 0) C dX8_capabilities_35 (by decide) ?_
        refine z_goto (tgt := 45) C dX8_capabilities_36 (by decide) ?_
        have hu := Option.some.inj hF
        subst hu
        exact z_iret C dX8_capabilities_45 rfl rfl
    · have hF := zelse hF c4
      refine z_iconst (v := 0) C dX8_capabilities_20 (by decide) ?_
      refine z_goto (tgt := 25) C dX8_capabilities_21 (by decide) ?_
      refine z_put (ws' := (zwX8 cI cJ cZ a8 (zs S 0 0) V)) (ref := "SecretBrokerModel") (ty := .int) C hX8_capabilities_X8 tyX8 tyX8_ok nmX8 0 rfl rfl 0 (by decide) kX8_capabilities_88 (fun _ h9 => h9) rfl (by decide +kernel) rfl rfl (Nat.le_of_ble_eq_true rfl) dX8_capabilities_25 (zs_val S 0 0) (zf_X8_0 cI cJ cZ a8 S V 0) ?_
      refine z_aload_n C dX8_capabilities_28 rfl 0 rfl ?_
      refine z_get (ref := "SecretBrokerModel") (v := .int ((zs S 0 0) 0 0)) C hX8_capabilities_X8 0 rfl rfl 0 (by decide) kX8_capabilities_88 (fun _ h9 => h9) rfl dX8_capabilities_29 ?_
      refine z_if_le (tgt := 39) C dX8_capabilities_32 (by decide) (fun c7 => ?_) (fun c7 => ?_)
      · have hF := zif hF c7
        refine z_aload_n C dX8_capabilities_39 rfl 0 rfl ?_
        refine z_iload_n C dX8_capabilities_40 rfl 1 rfl ?_
        refine z_iload_n C dX8_capabilities_41 rfl 2 rfl ?_
        obtain ⟨r8, er8, hF⟩ := zbd hF
        refine z_callV (n := 2) (As := [.int x1, .int x2]) (ws' := (zwX8 cI cJ cZ a8 (zs S 0 0) V)) C (c_X8_can l D cI cJ cZ a8 (zs S 0 0) V x1 x2 r8 er8) gX8_capabilities_X8_can rfl rfl rfl (by decide +kernel) ⟨Nat.le_of_ble_eq_true rfl, Nat.le_of_ble_eq_true rfl⟩ ⟨Nat.zero_le _, Nat.zero_le _⟩ 0 rfl rfl [] [] rfl rfl rfl rfl (Nat.le_of_ble_eq_true rfl) dX8_capabilities_42 ?_
        have hu := Option.some.inj hF
        subst hu
        exact z_iret C dX8_capabilities_45 rfl rfl
      · have hF := zelse hF c7
        refine z_iconst (v := 0) C dX8_capabilities_35 (by decide) ?_
        refine z_goto (tgt := 45) C dX8_capabilities_36 (by decide) ?_
        have hu := Option.some.inj hF
        subst hu
        exact z_iret C dX8_capabilities_45 rfl rfl
  · have hF := zif hF c2
    refine z_iconst (v := 1) C dX8_capabilities_9 (by decide) ?_
    refine z_goto (tgt := 25) C dX8_capabilities_10 (by decide) ?_
    refine z_put (ws' := (zwX8 cI cJ cZ a8 (zs S 0 1) V)) (ref := "SecretBrokerModel") (ty := .int) C hX8_capabilities_X8 tyX8 tyX8_ok nmX8 0 rfl rfl 0 (by decide) kX8_capabilities_88 (fun _ h9 => h9) rfl (by decide +kernel) rfl rfl (Nat.le_of_ble_eq_true rfl) dX8_capabilities_25 (zs_val S 0 1) (zf_X8_0 cI cJ cZ a8 S V 1) ?_
    refine z_aload_n C dX8_capabilities_28 rfl 0 rfl ?_
    refine z_get (ref := "SecretBrokerModel") (v := .int ((zs S 0 1) 0 0)) C hX8_capabilities_X8 0 rfl rfl 0 (by decide) kX8_capabilities_88 (fun _ h9 => h9) rfl dX8_capabilities_29 ?_
    refine z_if_le (tgt := 39) C dX8_capabilities_32 (by decide) (fun c9 => ?_) (fun c9 => ?_)
    · have hF := zif hF c9
      refine z_aload_n C dX8_capabilities_39 rfl 0 rfl ?_
      refine z_iload_n C dX8_capabilities_40 rfl 1 rfl ?_
      refine z_iload_n C dX8_capabilities_41 rfl 2 rfl ?_
      obtain ⟨r10, er10, hF⟩ := zbd hF
      refine z_callV (n := 2) (As := [.int x1, .int x2]) (ws' := (zwX8 cI cJ cZ a8 (zs S 0 1) V)) C (c_X8_can l D cI cJ cZ a8 (zs S 0 1) V x1 x2 r10 er10) gX8_capabilities_X8_can rfl rfl rfl (by decide +kernel) ⟨Nat.le_of_ble_eq_true rfl, Nat.le_of_ble_eq_true rfl⟩ ⟨Nat.zero_le _, Nat.zero_le _⟩ 0 rfl rfl [] [] rfl rfl rfl rfl (Nat.le_of_ble_eq_true rfl) dX8_capabilities_42 ?_
      have hu := Option.some.inj hF
      subst hu
      exact z_iret C dX8_capabilities_45 rfl rfl
    · have hF := zelse hF c9
      refine z_iconst (v := 0) C dX8_capabilities_35 (by decide) ?_
      refine z_goto (tgt := 45) C dX8_capabilities_36 (by decide) ?_
      have hu := Option.some.inj hF
      subst hu
      exact z_iret C dX8_capabilities_45 rfl rfl
theorem kX8_reason_36 : Cond.fieldLink RX8 36 "SecretBrokerModel" "isAlive" "[Z" ∈ wsX8_reason := by decide +kernel
theorem kX8_reason_54 : Cond.fieldLink RX8 54 "SecretBrokerModel" "uses" "[I" ∈ wsX8_reason := by decide +kernel
theorem hX8_reason_X8 : ∀ w ∈ wsX80, w ∈ wsX8_reason := by decide +kernel
set_option maxHeartbeats 4000000 in
set_option maxRecDepth 100000 in
theorem c_X8_reason (l : Launch) (D : va_G) (cI cJ cZ : ClassId) (a8 : Nat → Nat) (S : SS) (V : SL) (x1 : Int32) (x2 : Int32) (u : Int32) (hF : f_X8_reason S x1 x2 = some u) : zM l yX8_reason wsX8_reason ({ frames := 6, cells := 0, slots := 0, locals := 140 }) D (zTy cI cJ cZ) [.ref (a8 0), .int x1, .int x2] (zwX8 cI cJ cZ a8 S V) (some (.int u)) (zwX8 cI cJ cZ a8 S V) := by
  refine z_body (cc := cX8_reason) (maxL := 3) (rty := (some .int)) (own := RX8) (lv := [(0, .ref (a8 0)), (1, .int x1), (2, .int x2)]) (by decide +kernel) rfl rfl (Nat.le_of_ble_eq_true rfl) rfl (fun p e s m args below meth c A C => ?_)
  refine z_aload_n C dX8_reason_0 rfl 0 rfl ?_
  refine z_get (ref := "SecretBrokerModel") (v := .ref (a8 8)) C hX8_reason_X8 0 rfl rfl 12 (by decide) kX8_reason_36 (fun _ h9 => h9) rfl dX8_reason_1 ?_
  refine z_iload_n C dX8_reason_4 rfl 1 rfl ?_
  obtain ⟨g1, hF⟩ := zix_some hF
  refine z_zald (v := ((S 12) x1.toNatClampNeg)) C g1 8 rfl rfl rfl dX8_reason_5 ?_
  refine z_if_ne (tgt := 13) C dX8_reason_6 (by decide) (fun c2 => ?_) (fun c2 => ?_)
  · have hF := zelse hF c2
    refine z_aload_n C dX8_reason_13 rfl 0 rfl ?_
    refine z_get (ref := "SecretBrokerModel") (v := .ref (a8 14)) C hX8_reason_X8 0 rfl rfl 18 (by decide) kX8_reason_54 (fun _ h9 => h9) rfl dX8_reason_14 ?_
    refine z_iload_n C dX8_reason_17 rfl 1 rfl ?_
    obtain ⟨g3, hF⟩ := zix_some hF
    refine z_iald (v := ((S 18) x1.toNatClampNeg)) C g3 14 rfl rfl rfl dX8_reason_18 ?_
    refine z_if_ne (tgt := 26) C dX8_reason_19 (by decide) (fun c4 => ?_) (fun c4 => ?_)
    · have hF := zelse hF c4
      refine z_aload_n C dX8_reason_26 rfl 0 rfl ?_
      refine z_iload_n C dX8_reason_27 rfl 2 rfl ?_
      obtain ⟨r5, er5, hF⟩ := zbd hF
      refine z_callV (n := 1) (As := [.int x2]) (ws' := (zwX8 cI cJ cZ a8 S V)) C (c_X8_mountFor l D cI cJ cZ a8 S V x2 r5 er5) gX8_reason_X8_mountFor rfl rfl rfl (by decide +kernel) ⟨Nat.le_of_ble_eq_true rfl, Nat.le_of_ble_eq_true rfl⟩ ⟨Nat.zero_le _, Nat.zero_le _⟩ 0 rfl rfl [] [] rfl rfl rfl rfl (Nat.le_of_ble_eq_true rfl) dX8_reason_28 ?_
      refine z_iconst (v := (-1)) C dX8_reason_31 (by decide) ?_
      refine z_icmp_ne (tgt := 39) C dX8_reason_32 (by decide) (fun c6 => ?_) (fun c6 => ?_)
      · have hF := zelse hF c6
        refine z_aload_n C dX8_reason_39 rfl 0 rfl ?_
        refine z_iload_n C dX8_reason_40 rfl 1 rfl ?_
        refine z_iload_n C dX8_reason_41 rfl 2 rfl ?_
        obtain ⟨r7, er7, hF⟩ := zbd hF
        refine z_callV (n := 2) (As := [.int x1, .int x2]) (ws' := (zwX8 cI cJ cZ a8 S V)) C (c_X8_can l D cI cJ cZ a8 S V x1 x2 r7 er7) gX8_reason_X8_can rfl rfl rfl (by decide +kernel) ⟨Nat.le_of_ble_eq_true rfl, Nat.le_of_ble_eq_true rfl⟩ ⟨Nat.zero_le _, Nat.zero_le _⟩ 0 rfl rfl [] [] rfl rfl rfl rfl (Nat.le_of_ble_eq_true rfl) dX8_reason_42 ?_
        refine z_iconst (v := 1) C dX8_reason_45 (by decide) ?_
        refine z_iand C dX8_reason_46 ?_
        refine z_if_ne (tgt := 54) C dX8_reason_47 (by decide) (fun c8 => ?_) (fun c8 => ?_)
        · have hF := zelse hF c8
          refine z_iconst (v := 0) C dX8_reason_54 (by decide) ?_
          have hu := Option.some.inj hF
          subst hu
          exact z_iret C dX8_reason_55 rfl rfl
        · have hF := zif hF c8
          refine z_iconst (v := 4) C dX8_reason_50 (by decide) ?_
          refine z_goto (tgt := 55) C dX8_reason_51 (by decide) ?_
          have hu := Option.some.inj hF
          subst hu
          exact z_iret C dX8_reason_55 rfl rfl
      · have hF := zif hF c6
        refine z_iconst (v := 3) C dX8_reason_35 (by decide) ?_
        refine z_goto (tgt := 55) C dX8_reason_36 (by decide) ?_
        have hu := Option.some.inj hF
        subst hu
        exact z_iret C dX8_reason_55 rfl rfl
    · have hF := zif hF c4
      refine z_iconst (v := 2) C dX8_reason_22 (by decide) ?_
      refine z_goto (tgt := 55) C dX8_reason_23 (by decide) ?_
      have hu := Option.some.inj hF
      subst hu
      exact z_iret C dX8_reason_55 rfl rfl
  · have hF := zif hF c2
    refine z_iconst (v := 1) C dX8_reason_9 (by decide) ?_
    refine z_goto (tgt := 55) C dX8_reason_10 (by decide) ?_
    have hu := Option.some.inj hF
    subst hu
    exact z_iret C dX8_reason_55 rfl rfl
theorem kX8_request_88 : Cond.fieldLink RX8 88 "SecretBrokerModel" "thrown" "I" ∈ wsX8_request := by decide +kernel
theorem kX8_request_54 : Cond.fieldLink RX8 54 "SecretBrokerModel" "uses" "[I" ∈ wsX8_request := by decide +kernel
theorem kX8_request_36 : Cond.fieldLink RX8 36 "SecretBrokerModel" "isAlive" "[Z" ∈ wsX8_request := by decide +kernel
theorem kX8_request_57 : Cond.fieldLink RX8 57 "SecretBrokerModel" "works" "[Z" ∈ wsX8_request := by decide +kernel
theorem kX8_request_152 : Cond.fieldLink RX8 152 "SecretBrokerModel" "given" "I" ∈ wsX8_request := by decide +kernel
theorem kX8_request_60 : Cond.fieldLink RX8 60 "SecretBrokerModel" "owner" "[I" ∈ wsX8_request := by decide +kernel
theorem kX8_request_63 : Cond.fieldLink RX8 63 "SecretBrokerModel" "path" "[I" ∈ wsX8_request := by decide +kernel
theorem kX8_request_66 : Cond.fieldLink RX8 66 "SecretBrokerModel" "from" "[I" ∈ wsX8_request := by decide +kernel
theorem kX8_request_104 : Cond.fieldLink RX8 104 "SecretBrokerModel" "time" "I" ∈ wsX8_request := by decide +kernel
theorem kX8_request_69 : Cond.fieldLink RX8 69 "SecretBrokerModel" "until" "[I" ∈ wsX8_request := by decide +kernel
theorem kX8_request_26 : Cond.fieldLink RX8 26 "SecretBrokerModel" "mountMinutes" "[I" ∈ wsX8_request := by decide +kernel
theorem kX8_request_72 : Cond.fieldLink RX8 72 "SecretBrokerModel" "most" "[I" ∈ wsX8_request := by decide +kernel
theorem kX8_request_29 : Cond.fieldLink RX8 29 "SecretBrokerModel" "mountBound" "[I" ∈ wsX8_request := by decide +kernel
theorem hX8_request_X8 : ∀ w ∈ wsX80, w ∈ wsX8_request := by decide +kernel
set_option maxHeartbeats 4000000 in
set_option maxRecDepth 100000 in
theorem c_X8_request_j96 (l : Launch) (D : va_G) (cI cJ cZ : ClassId) (a8 : Nat → Nat) (S : SS) (V : SL) (u : Int32 × SS × SL) {p : Program} {e : Env} {s : State} {m : MethodId} {args : Array Value} {below : List Frame} {meth : Method} {c : Code} {A : Nat → Prop} (C : zC p s m args meth c cX8_request 5 (some .int) RX8 wsX8_request D (zTy cI cJ cZ) A s.heap) : ∀ (Sc : SS) (Vc : SL) (v1 : Int32) (v2 : Int32) (v3 : Int32) (s1 : Int32) (s2 : Int32) (s3 : Int32), f_X8_request_96 Sc Vc v1 v2 v3 s1 s2 s3 = some u → zW p l e { frames := 7, cells := 0, slots := 0, locals := 162 } s m args below meth c 5 D A s.heap 0 0 (MQ below (zQ D (zTy cI cJ cZ) (some (.int u.1)) (zwX8 cI cJ cZ a8 u.2.1 u.2.2) A) args s 0 0 A) (zwX8 cI cJ cZ a8 Sc Vc) [(0, .ref (a8 0)), (1, .int v1), (2, .int v2), (3, .int v3)] 96 [.int s3, .int s2, .int s1, .ref (a8 14)] := by
  intro Sc Vc v1 v2 v3 s1 s2 s3 hF
  refine z_isub C dX8_request_96 ?_
  obtain ⟨g12, hF⟩ := zix_some hF
  refine z_iast (ws' := (zwX8 cI cJ cZ a8 (za Sc 18 s1 (s2 - s3)) Vc)) C g12 14 rfl rfl dX8_request_97 (za_row Sc 18 s1 (s2 - s3)) (zr_X8_18 cI cJ cZ a8 Sc Vc s1 (s2 - s3)) ?_
  refine z_iload_n C dX8_request_98 rfl 3 rfl ?_
  refine z_if_le (tgt := 111) C dX8_request_99 (by decide) (fun c13 => ?_) (fun c13 => ?_)
  · have hF := zif hF c13
    refine z_aload_n C dX8_request_111 rfl 0 rfl ?_
    refine z_iload_n C dX8_request_112 rfl 2 rfl ?_
    obtain ⟨r14, er14, hF⟩ := zbd hF
    refine z_callV (n := 1) (As := [.int v2]) (ws' := (zwX8 cI cJ cZ a8 (za Sc 18 s1 (s2 - s3)) Vc)) C (c_X8_mountFor l D cI cJ cZ a8 (za Sc 18 s1 (s2 - s3)) Vc v2 r14 er14) gX8_request_X8_mountFor rfl rfl rfl (by decide +kernel) ⟨Nat.le_of_ble_eq_true rfl, Nat.le_of_ble_eq_true rfl⟩ ⟨Nat.zero_le _, Nat.zero_le _⟩ 0 rfl rfl [] [] rfl rfl rfl rfl (Nat.le_of_ble_eq_true rfl) dX8_request_113 ?_
    refine z_istore (lv' := [(4, .int r14), (0, .ref (a8 0)), (1, .int v1), (2, .int v2), (3, .int v3)]) C dX8_request_116 (by decide) rfl ?_
    refine z_aload_n C dX8_request_118 rfl 1 rfl ?_
    refine z_get (ref := "SecretBrokerModel") (v := .ref (a8 15)) C hX8_request_X8 0 rfl rfl 20 (by decide) kX8_request_57 (fun _ h9 => h9) rfl dX8_request_119 ?_
    refine z_aload_n C dX8_request_122 rfl 1 rfl ?_
    refine z_get (ref := "SecretBrokerModel") (v := .int (Sc 19 0)) C hX8_request_X8 0 rfl rfl 19 (by decide) kX8_request_152 (fun _ h9 => h9) rfl dX8_request_123 ?_
    refine z_iconst (v := 1) C dX8_request_126 (by decide) ?_
    obtain ⟨g15, hF⟩ := zix_some hF
    refine z_zast (ws' := (zwX8 cI cJ cZ a8 (za (za Sc 18 s1 (s2 - s3)) 20 (Sc 19 0) (vp_nar .boolean 1)) Vc)) C g15 15 rfl rfl dX8_request_127 (za_row (za Sc 18 s1 (s2 - s3)) 20 (Sc 19 0) (vp_nar .boolean 1)) (zr_X8_20 cI cJ cZ a8 (za Sc 18 s1 (s2 - s3)) Vc (Sc 19 0) (vp_nar .boolean 1)) ?_
    refine z_aload_n C dX8_request_128 rfl 1 rfl ?_
    refine z_get (ref := "SecretBrokerModel") (v := .ref (a8 16)) C hX8_request_X8 0 rfl rfl 21 (by decide) kX8_request_60 (fun _ h9 => h9) rfl dX8_request_129 ?_
    refine z_aload_n C dX8_request_132 rfl 1 rfl ?_
    refine z_get (ref := "SecretBrokerModel") (v := .int (Sc 19 0)) C hX8_request_X8 0 rfl rfl 19 (by decide) kX8_request_152 (fun _ h9 => h9) rfl dX8_request_133 ?_
    refine z_iload_n C dX8_request_136 rfl 2 rfl ?_
    obtain ⟨g16, hF⟩ := zix_some hF
    refine z_iast (ws' := (zwX8 cI cJ cZ a8 (za (za (za Sc 18 s1 (s2 - s3)) 20 (Sc 19 0) (vp_nar .boolean 1)) 21 (Sc 19 0) v1) Vc)) C g16 16 rfl rfl dX8_request_137 (za_row (za (za Sc 18 s1 (s2 - s3)) 20 (Sc 19 0) (vp_nar .boolean 1)) 21 (Sc 19 0) v1) (zr_X8_21 cI cJ cZ a8 (za (za Sc 18 s1 (s2 - s3)) 20 (Sc 19 0) (vp_nar .boolean 1)) Vc (Sc 19 0) v1) ?_
    refine z_aload_n C dX8_request_138 rfl 1 rfl ?_
    refine z_get (ref := "SecretBrokerModel") (v := .ref (a8 17)) C hX8_request_X8 0 rfl rfl 22 (by decide) kX8_request_63 (fun _ h9 => h9) rfl dX8_request_139 ?_
    refine z_aload_n C dX8_request_142 rfl 1 rfl ?_
    refine z_get (ref := "SecretBrokerModel") (v := .int (Sc 19 0)) C hX8_request_X8 0 rfl rfl 19 (by decide) kX8_request_152 (fun _ h9 => h9) rfl dX8_request_143 ?_
    refine z_iload_n C dX8_request_146 rfl 3 rfl ?_
    obtain ⟨g17, hF⟩ := zix_some hF
    refine z_iast (ws' := (zwX8 cI cJ cZ a8 (za (za (za (za Sc 18 s1 (s2 - s3)) 20 (Sc 19 0) (vp_nar .boolean 1)) 21 (Sc 19 0) v1) 22 (Sc 19 0) v2) Vc)) C g17 17 rfl rfl dX8_request_147 (za_row (za (za (za Sc 18 s1 (s2 - s3)) 20 (Sc 19 0) (vp_nar .boolean 1)) 21 (Sc 19 0) v1) 22 (Sc 19 0) v2) (zr_X8_22 cI cJ cZ a8 (za (za (za Sc 18 s1 (s2 - s3)) 20 (Sc 19 0) (vp_nar .boolean 1)) 21 (Sc 19 0) v1) Vc (Sc 19 0) v2) ?_
    refine z_aload_n C dX8_request_148 rfl 1 rfl ?_
    refine z_get (ref := "SecretBrokerModel") (v := .ref (a8 18)) C hX8_request_X8 0 rfl rfl 23 (by decide) kX8_request_66 (fun _ h9 => h9) rfl dX8_request_149 ?_
    refine z_aload_n C dX8_request_152 rfl 1 rfl ?_
    refine z_get (ref := "SecretBrokerModel") (v := .int (Sc 19 0)) C hX8_request_X8 0 rfl rfl 19 (by decide) kX8_request_152 (fun _ h9 => h9) rfl dX8_request_153 ?_
    refine z_aload_n C dX8_request_156 rfl 1 rfl ?_
    refine z_get (ref := "SecretBrokerModel") (v := .int (Sc 1 0)) C hX8_request_X8 0 rfl rfl 1 (by decide) kX8_request_104 (fun _ h9 => h9) rfl dX8_request_157 ?_
    obtain ⟨g18, hF⟩ := zix_some hF
    refine z_iast (ws' := (zwX8 cI cJ cZ a8 (za (za (za (za (za Sc 18 s1 (s2 - s3)) 20 (Sc 19 0) (vp_nar .boolean 1)) 21 (Sc 19 0) v1) 22 (Sc 19 0) v2) 23 (Sc 19 0) (Sc 1 0)) Vc)) C g18 18 rfl rfl dX8_request_160 (za_row (za (za (za (za Sc 18 s1 (s2 - s3)) 20 (Sc 19 0) (vp_nar .boolean 1)) 21 (Sc 19 0) v1) 22 (Sc 19 0) v2) 23 (Sc 19 0) (Sc 1 0)) (zr_X8_23 cI cJ cZ a8 (za (za (za (za Sc 18 s1 (s2 - s3)) 20 (Sc 19 0) (vp_nar .boolean 1)) 21 (Sc 19 0) v1) 22 (Sc 19 0) v2) Vc (Sc 19 0) (Sc 1 0)) ?_
    refine z_aload_n C dX8_request_161 rfl 1 rfl ?_
    refine z_get (ref := "SecretBrokerModel") (v := .ref (a8 19)) C hX8_request_X8 0 rfl rfl 24 (by decide) kX8_request_69 (fun _ h9 => h9) rfl dX8_request_162 ?_
    refine z_aload_n C dX8_request_165 rfl 1 rfl ?_
    refine z_get (ref := "SecretBrokerModel") (v := .int (Sc 19 0)) C hX8_request_X8 0 rfl rfl 19 (by decide) kX8_request_152 (fun _ h9 => h9) rfl dX8_request_166 ?_
    refine z_aload_n C dX8_request_169 rfl 1 rfl ?_
    refine z_get (ref := "SecretBrokerModel") (v := .int (Sc 1 0)) C hX8_request_X8 0 rfl rfl 1 (by decide) kX8_request_104 (fun _ h9 => h9) rfl dX8_request_170 ?_
    refine z_aload_n C dX8_request_173 rfl 1 rfl ?_
    refine z_get (ref := "SecretBrokerModel") (v := .ref (a8 6)) C hX8_request_X8 0 rfl rfl 9 (by decide) kX8_request_26 (fun _ h9 => h9) rfl dX8_request_174 ?_
    refine z_iload C dX8_request_177 0 rfl ?_
    obtain ⟨g19, hF⟩ := zix_some hF
    refine z_iald (v := ((Sc 9) r14.toNatClampNeg)) C g19 6 rfl rfl rfl dX8_request_179 ?_
    refine z_iadd C dX8_request_180 ?_
    obtain ⟨g20, hF⟩ := zix_some hF
    refine z_iast (ws' := (zwX8 cI cJ cZ a8 (za (za (za (za (za (za Sc 18 s1 (s2 - s3)) 20 (Sc 19 0) (vp_nar .boolean 1)) 21 (Sc 19 0) v1) 22 (Sc 19 0) v2) 23 (Sc 19 0) (Sc 1 0)) 24 (Sc 19 0) ((Sc 1 0) + ((Sc 9) r14.toNatClampNeg))) Vc)) C g20 19 rfl rfl dX8_request_181 (za_row (za (za (za (za (za Sc 18 s1 (s2 - s3)) 20 (Sc 19 0) (vp_nar .boolean 1)) 21 (Sc 19 0) v1) 22 (Sc 19 0) v2) 23 (Sc 19 0) (Sc 1 0)) 24 (Sc 19 0) ((Sc 1 0) + ((Sc 9) r14.toNatClampNeg))) (zr_X8_24 cI cJ cZ a8 (za (za (za (za (za Sc 18 s1 (s2 - s3)) 20 (Sc 19 0) (vp_nar .boolean 1)) 21 (Sc 19 0) v1) 22 (Sc 19 0) v2) 23 (Sc 19 0) (Sc 1 0)) Vc (Sc 19 0) ((Sc 1 0) + ((Sc 9) r14.toNatClampNeg))) ?_
    refine z_aload_n C dX8_request_182 rfl 1 rfl ?_
    refine z_get (ref := "SecretBrokerModel") (v := .ref (a8 20)) C hX8_request_X8 0 rfl rfl 25 (by decide) kX8_request_72 (fun _ h9 => h9) rfl dX8_request_183 ?_
    refine z_aload_n C dX8_request_186 rfl 1 rfl ?_
    refine z_get (ref := "SecretBrokerModel") (v := .int (Sc 19 0)) C hX8_request_X8 0 rfl rfl 19 (by decide) kX8_request_152 (fun _ h9 => h9) rfl dX8_request_187 ?_
    refine z_aload_n C dX8_request_190 rfl 1 rfl ?_
    refine z_get (ref := "SecretBrokerModel") (v := .ref (a8 7)) C hX8_request_X8 0 rfl rfl 10 (by decide) kX8_request_29 (fun _ h9 => h9) rfl dX8_request_191 ?_
    refine z_iload C dX8_request_194 0 rfl ?_
    obtain ⟨g21, hF⟩ := zix_some hF
    refine z_iald (v := ((Sc 10) r14.toNatClampNeg)) C g21 7 rfl rfl rfl dX8_request_196 ?_
    obtain ⟨g22, hF⟩ := zix_some hF
    refine z_iast (ws' := (zwX8 cI cJ cZ a8 (za (za (za (za (za (za (za Sc 18 s1 (s2 - s3)) 20 (Sc 19 0) (vp_nar .boolean 1)) 21 (Sc 19 0) v1) 22 (Sc 19 0) v2) 23 (Sc 19 0) (Sc 1 0)) 24 (Sc 19 0) ((Sc 1 0) + ((Sc 9) r14.toNatClampNeg))) 25 (Sc 19 0) ((Sc 10) r14.toNatClampNeg)) Vc)) C g22 20 rfl rfl dX8_request_197 (za_row (za (za (za (za (za (za Sc 18 s1 (s2 - s3)) 20 (Sc 19 0) (vp_nar .boolean 1)) 21 (Sc 19 0) v1) 22 (Sc 19 0) v2) 23 (Sc 19 0) (Sc 1 0)) 24 (Sc 19 0) ((Sc 1 0) + ((Sc 9) r14.toNatClampNeg))) 25 (Sc 19 0) ((Sc 10) r14.toNatClampNeg)) (zr_X8_25 cI cJ cZ a8 (za (za (za (za (za (za Sc 18 s1 (s2 - s3)) 20 (Sc 19 0) (vp_nar .boolean 1)) 21 (Sc 19 0) v1) 22 (Sc 19 0) v2) 23 (Sc 19 0) (Sc 1 0)) 24 (Sc 19 0) ((Sc 1 0) + ((Sc 9) r14.toNatClampNeg))) Vc (Sc 19 0) ((Sc 10) r14.toNatClampNeg)) ?_
    refine z_aload_n C dX8_request_198 rfl 1 rfl ?_
    refine z_dup C dX8_request_199 rfl ?_
    refine z_get (ref := "SecretBrokerModel") (v := .int (Sc 19 0)) C hX8_request_X8 0 rfl rfl 19 (by decide) kX8_request_152 (fun _ h9 => h9) rfl dX8_request_200 ?_
    refine z_iconst (v := 1) C dX8_request_203 (by decide) ?_
    refine z_iadd C dX8_request_204 ?_
    refine z_put (ws' := (zwX8 cI cJ cZ a8 (zs (za (za (za (za (za (za (za Sc 18 s1 (s2 - s3)) 20 (Sc 19 0) (vp_nar .boolean 1)) 21 (Sc 19 0) v1) 22 (Sc 19 0) v2) 23 (Sc 19 0) (Sc 1 0)) 24 (Sc 19 0) ((Sc 1 0) + ((Sc 9) r14.toNatClampNeg))) 25 (Sc 19 0) ((Sc 10) r14.toNatClampNeg)) 19 ((Sc 19 0) + 1)) Vc)) (ref := "SecretBrokerModel") (ty := .int) C hX8_request_X8 tyX8 tyX8_ok nmX8 0 rfl rfl 19 (by decide) kX8_request_152 (fun _ h9 => h9) rfl (by decide +kernel) rfl rfl (Nat.le_of_ble_eq_true rfl) dX8_request_205 (zs_val (za (za (za (za (za (za (za Sc 18 s1 (s2 - s3)) 20 (Sc 19 0) (vp_nar .boolean 1)) 21 (Sc 19 0) v1) 22 (Sc 19 0) v2) 23 (Sc 19 0) (Sc 1 0)) 24 (Sc 19 0) ((Sc 1 0) + ((Sc 9) r14.toNatClampNeg))) 25 (Sc 19 0) ((Sc 10) r14.toNatClampNeg)) 19 ((Sc 19 0) + 1)) (zf_X8_19 cI cJ cZ a8 (za (za (za (za (za (za (za Sc 18 s1 (s2 - s3)) 20 (Sc 19 0) (vp_nar .boolean 1)) 21 (Sc 19 0) v1) 22 (Sc 19 0) v2) 23 (Sc 19 0) (Sc 1 0)) 24 (Sc 19 0) ((Sc 1 0) + ((Sc 9) r14.toNatClampNeg))) 25 (Sc 19 0) ((Sc 10) r14.toNatClampNeg)) Vc ((Sc 19 0) + 1)) ?_
    refine z_aload_n C dX8_request_208 rfl 1 rfl ?_
    refine z_iconst (v := 2) C dX8_request_209 (by decide) ?_
    refine z_iload_n C dX8_request_210 rfl 2 rfl ?_
    refine z_aload_n C dX8_request_211 rfl 1 rfl ?_
    refine z_get (ref := "SecretBrokerModel") (v := .int ((zs (za (za (za (za (za (za (za Sc 18 s1 (s2 - s3)) 20 (Sc 19 0) (vp_nar .boolean 1)) 21 (Sc 19 0) v1) 22 (Sc 19 0) v2) 23 (Sc 19 0) (Sc 1 0)) 24 (Sc 19 0) ((Sc 1 0) + ((Sc 9) r14.toNatClampNeg))) 25 (Sc 19 0) ((Sc 10) r14.toNatClampNeg)) 19 ((Sc 19 0) + 1)) 19 0)) C hX8_request_X8 0 rfl rfl 19 (by decide) kX8_request_152 (fun _ h9 => h9) rfl dX8_request_212 ?_
    refine z_iconst (v := 1) C dX8_request_215 (by decide) ?_
    refine z_isub C dX8_request_216 ?_
    obtain ⟨r23, er23, hF⟩ := zbd hF
    refine z_callV (n := 3) (As := [.int 2, .int v1, .int (((zs (za (za (za (za (za (za (za Sc 18 s1 (s2 - s3)) 20 (Sc 19 0) (vp_nar .boolean 1)) 21 (Sc 19 0) v1) 22 (Sc 19 0) v2) 23 (Sc 19 0) (Sc 1 0)) 24 (Sc 19 0) ((Sc 1 0) + ((Sc 9) r14.toNatClampNeg))) 25 (Sc 19 0) ((Sc 10) r14.toNatClampNeg)) 19 ((Sc 19 0) + 1)) 19 0) - 1)]) (ws' := (zwX8 cI cJ cZ a8 r23.1 r23.2)) C (c_X8_writes l D cI cJ cZ a8 (zs (za (za (za (za (za (za (za Sc 18 s1 (s2 - s3)) 20 (Sc 19 0) (vp_nar .boolean 1)) 21 (Sc 19 0) v1) 22 (Sc 19 0) v2) 23 (Sc 19 0) (Sc 1 0)) 24 (Sc 19 0) ((Sc 1 0) + ((Sc 9) r14.toNatClampNeg))) 25 (Sc 19 0) ((Sc 10) r14.toNatClampNeg)) 19 ((Sc 19 0) + 1)) Vc 2 v1 (((zs (za (za (za (za (za (za (za Sc 18 s1 (s2 - s3)) 20 (Sc 19 0) (vp_nar .boolean 1)) 21 (Sc 19 0) v1) 22 (Sc 19 0) v2) 23 (Sc 19 0) (Sc 1 0)) 24 (Sc 19 0) ((Sc 1 0) + ((Sc 9) r14.toNatClampNeg))) 25 (Sc 19 0) ((Sc 10) r14.toNatClampNeg)) 19 ((Sc 19 0) + 1)) 19 0) - 1) r23 er23) gX8_request_X8_writes rfl rfl rfl (by decide +kernel) ⟨Nat.le_of_ble_eq_true rfl, Nat.le_of_ble_eq_true rfl⟩ ⟨Nat.zero_le _, Nat.zero_le _⟩ 0 rfl rfl [] [] rfl rfl rfl rfl (Nat.le_of_ble_eq_true rfl) dX8_request_217 ?_
    refine z_aload_n C dX8_request_220 rfl 1 rfl ?_
    refine z_get (ref := "SecretBrokerModel") (v := .int (r23.1 19 0)) C hX8_request_X8 0 rfl rfl 19 (by decide) kX8_request_152 (fun _ h9 => h9) rfl dX8_request_221 ?_
    refine z_iconst (v := 1) C dX8_request_224 (by decide) ?_
    refine z_isub C dX8_request_225 ?_
    have hu := Option.some.inj hF
    subst hu
    exact z_iret C dX8_request_226 rfl rfl
  · have hF := zelse hF c13
    refine z_aload_n C dX8_request_102 rfl 0 rfl ?_
    refine z_iconst (v := 3) C dX8_request_103 (by decide) ?_
    refine z_iload_n C dX8_request_104 rfl 1 rfl ?_
    refine z_iload_n C dX8_request_105 rfl 3 rfl ?_
    obtain ⟨r24, er24, hF⟩ := zbd hF
    refine z_callV (n := 3) (As := [.int 3, .int v1, .int v3]) (ws' := (zwX8 cI cJ cZ a8 r24.1 r24.2)) C (c_X8_writes l D cI cJ cZ a8 (za Sc 18 s1 (s2 - s3)) Vc 3 v1 v3 r24 er24) gX8_request_X8_writes rfl rfl rfl (by decide +kernel) ⟨Nat.le_of_ble_eq_true rfl, Nat.le_of_ble_eq_true rfl⟩ ⟨Nat.zero_le _, Nat.zero_le _⟩ 0 rfl rfl [] [] rfl rfl rfl rfl (Nat.le_of_ble_eq_true rfl) dX8_request_106 ?_
    refine z_iconst (v := (-1)) C dX8_request_109 (by decide) ?_
    have hu := Option.some.inj hF
    subst hu
    exact z_iret C dX8_request_110 rfl rfl
set_option maxHeartbeats 4000000 in
set_option maxRecDepth 100000 in
theorem c_X8_request_j95 (l : Launch) (D : va_G) (cI cJ cZ : ClassId) (a8 : Nat → Nat) (S : SS) (V : SL) (u : Int32 × SS × SL) {p : Program} {e : Env} {s : State} {m : MethodId} {args : Array Value} {below : List Frame} {meth : Method} {c : Code} {A : Nat → Prop} (C : zC p s m args meth c cX8_request 5 (some .int) RX8 wsX8_request D (zTy cI cJ cZ) A s.heap) : ∀ (Sc : SS) (Vc : SL) (v1 : Int32) (v2 : Int32) (v3 : Int32) (s1 : Int32) (s2 : Int32), f_X8_request_95 Sc Vc v1 v2 v3 s1 s2 = some u → zW p l e { frames := 7, cells := 0, slots := 0, locals := 162 } s m args below meth c 5 D A s.heap 0 0 (MQ below (zQ D (zTy cI cJ cZ) (some (.int u.1)) (zwX8 cI cJ cZ a8 u.2.1 u.2.2) A) args s 0 0 A) (zwX8 cI cJ cZ a8 Sc Vc) [(0, .ref (a8 0)), (1, .int v1), (2, .int v2), (3, .int v3)] 95 [.int s2, .int s1, .ref (a8 14)] := by
  intro Sc Vc v1 v2 v3 s1 s2 hF
  refine z_iconst (v := 0) C dX8_request_95 (by decide) ?_
  exact c_X8_request_j96 l D cI cJ cZ a8 S V u C Sc Vc v1 v2 v3 s1 s2 0 hF
set_option maxHeartbeats 4000000 in
set_option maxRecDepth 100000 in
theorem c_X8_request_j47 (l : Launch) (D : va_G) (cI cJ cZ : ClassId) (a8 : Nat → Nat) (S : SS) (V : SL) (u : Int32 × SS × SL) {p : Program} {e : Env} {s : State} {m : MethodId} {args : Array Value} {below : List Frame} {meth : Method} {c : Code} {A : Nat → Prop} (C : zC p s m args meth c cX8_request 5 (some .int) RX8 wsX8_request D (zTy cI cJ cZ) A s.heap) : ∀ (Sc : SS) (Vc : SL) (v1 : Int32) (v2 : Int32) (s1 : Int32), f_X8_request_47 Sc Vc v1 v2 s1 = some u → zW p l e { frames := 7, cells := 0, slots := 0, locals := 162 } s m args below meth c 5 D A s.heap 0 0 (MQ below (zQ D (zTy cI cJ cZ) (some (.int u.1)) (zwX8 cI cJ cZ a8 u.2.1 u.2.2) A) args s 0 0 A) (zwX8 cI cJ cZ a8 Sc Vc) [(0, .ref (a8 0)), (1, .int v1), (2, .int v2)] 47 [.int s1, .ref (a8 0)] := by
  intro Sc Vc v1 v2 s1 hF
  refine z_put (ws' := (zwX8 cI cJ cZ a8 (zs Sc 0 s1) Vc)) (ref := "SecretBrokerModel") (ty := .int) C hX8_request_X8 tyX8 tyX8_ok nmX8 0 rfl rfl 0 (by decide) kX8_request_88 (fun _ h9 => h9) rfl (by decide +kernel) rfl rfl (Nat.le_of_ble_eq_true rfl) dX8_request_47 (zs_val Sc 0 s1) (zf_X8_0 cI cJ cZ a8 Sc Vc s1) ?_
  refine z_aload_n C dX8_request_50 rfl 0 rfl ?_
  refine z_get (ref := "SecretBrokerModel") (v := .int ((zs Sc 0 s1) 0 0)) C hX8_request_X8 0 rfl rfl 0 (by decide) kX8_request_88 (fun _ h9 => h9) rfl dX8_request_51 ?_
  refine z_if_le (tgt := 59) C dX8_request_54 (by decide) (fun c7 => ?_) (fun c7 => ?_)
  · have hF := zif hF c7
    refine z_aload_n C dX8_request_59 rfl 0 rfl ?_
    refine z_iload_n C dX8_request_60 rfl 1 rfl ?_
    refine z_iload_n C dX8_request_61 rfl 2 rfl ?_
    obtain ⟨r8, er8, hF⟩ := zbd hF
    refine z_callV (n := 2) (As := [.int v1, .int v2]) (ws' := (zwX8 cI cJ cZ a8 (zs Sc 0 s1) Vc)) C (c_X8_reason l D cI cJ cZ a8 (zs Sc 0 s1) Vc v1 v2 r8 er8) gX8_request_X8_reason rfl rfl rfl (by decide +kernel) ⟨Nat.le_of_ble_eq_true rfl, Nat.le_of_ble_eq_true rfl⟩ ⟨Nat.zero_le _, Nat.zero_le _⟩ 0 rfl rfl [] [] rfl rfl rfl rfl (Nat.le_of_ble_eq_true rfl) dX8_request_62 ?_
    refine z_istore_n (lv' := [(3, .int r8), (0, .ref (a8 0)), (1, .int v1), (2, .int v2)]) C dX8_request_65 rfl (by decide) rfl ?_
    refine z_aload_n C dX8_request_66 rfl 1 rfl ?_
    refine z_get (ref := "SecretBrokerModel") (v := .ref (a8 14)) C hX8_request_X8 0 rfl rfl 18 (by decide) kX8_request_54 (fun _ h9 => h9) rfl dX8_request_67 ?_
    refine z_iload_n C dX8_request_70 rfl 2 rfl ?_
    refine z_dup2 C dX8_request_71 rfl rfl ?_
    obtain ⟨g9, hF⟩ := zix_some hF
    refine z_iald (v := ((Sc 18) v1.toNatClampNeg)) C g9 14 rfl rfl rfl dX8_request_72 ?_
    refine z_aload_n C dX8_request_73 rfl 1 rfl ?_
    refine z_get (ref := "SecretBrokerModel") (v := .ref (a8 8)) C hX8_request_X8 0 rfl rfl 12 (by decide) kX8_request_36 (fun _ h9 => h9) rfl dX8_request_74 ?_
    refine z_iload_n C dX8_request_77 rfl 2 rfl ?_
    obtain ⟨g10, hF⟩ := zix_some hF
    refine z_zald (v := ((Sc 12) v1.toNatClampNeg)) C g10 8 rfl rfl rfl dX8_request_78 ?_
    refine z_if_eq (tgt := 95) C dX8_request_79 (by decide) (fun c11 => ?_) (fun c11 => ?_)
    · have hF := zif hF c11
      exact z_sub C [1, 2, 3, 0] rfl (c_X8_request_j95 l D cI cJ cZ a8 S V u C (zs Sc 0 s1) Vc v1 v2 r8 v1 ((Sc 18) v1.toNatClampNeg) hF)
    · have hF := zelse hF c11
      refine z_aload_n C dX8_request_82 rfl 1 rfl ?_
      refine z_get (ref := "SecretBrokerModel") (v := .ref (a8 14)) C hX8_request_X8 0 rfl rfl 18 (by decide) kX8_request_54 (fun _ h9 => h9) rfl dX8_request_83 ?_
      refine z_iload_n C dX8_request_86 rfl 2 rfl ?_
      obtain ⟨g25, hF⟩ := zix_some hF
      refine z_iald (v := ((Sc 18) v1.toNatClampNeg)) C g25 14 rfl rfl rfl dX8_request_87 ?_
      refine z_if_le (tgt := 95) C dX8_request_88 (by decide) (fun c26 => ?_) (fun c26 => ?_)
      · have hF := zif hF c26
        exact z_sub C [1, 2, 3, 0] rfl (c_X8_request_j95 l D cI cJ cZ a8 S V u C (zs Sc 0 s1) Vc v1 v2 r8 v1 ((Sc 18) v1.toNatClampNeg) hF)
      · have hF := zelse hF c26
        refine z_iconst (v := 1) C dX8_request_91 (by decide) ?_
        refine z_goto (tgt := 96) C dX8_request_92 (by decide) ?_
        exact z_sub C [1, 2, 3, 0] rfl (c_X8_request_j96 l D cI cJ cZ a8 S V u C (zs Sc 0 s1) Vc v1 v2 r8 v1 ((Sc 18) v1.toNatClampNeg) 1 hF)
  · have hF := zelse hF c7
    refine z_iconst (v := 0) C dX8_request_57 (by decide) ?_
    have hu := Option.some.inj hF
    subst hu
    exact z_iret C dX8_request_58 rfl rfl
set_option maxHeartbeats 4000000 in
set_option maxRecDepth 100000 in
theorem c_X8_request_j46 (l : Launch) (D : va_G) (cI cJ cZ : ClassId) (a8 : Nat → Nat) (S : SS) (V : SL) (u : Int32 × SS × SL) {p : Program} {e : Env} {s : State} {m : MethodId} {args : Array Value} {below : List Frame} {meth : Method} {c : Code} {A : Nat → Prop} (C : zC p s m args meth c cX8_request 5 (some .int) RX8 wsX8_request D (zTy cI cJ cZ) A s.heap) : ∀ (Sc : SS) (Vc : SL) (v1 : Int32) (v2 : Int32), f_X8_request_46 Sc Vc v1 v2 = some u → zW p l e { frames := 7, cells := 0, slots := 0, locals := 162 } s m args below meth c 5 D A s.heap 0 0 (MQ below (zQ D (zTy cI cJ cZ) (some (.int u.1)) (zwX8 cI cJ cZ a8 u.2.1 u.2.2) A) args s 0 0 A) (zwX8 cI cJ cZ a8 Sc Vc) [(0, .ref (a8 0)), (1, .int v1), (2, .int v2)] 46 [.ref (a8 0)] := by
  intro Sc Vc v1 v2 hF
  refine z_iconst (v := 0) C dX8_request_46 (by decide) ?_
  exact c_X8_request_j47 l D cI cJ cZ a8 S V u C Sc Vc v1 v2 0 hF
set_option maxHeartbeats 4000000 in
set_option maxRecDepth 100000 in
theorem c_X8_request (l : Launch) (D : va_G) (cI cJ cZ : ClassId) (a8 : Nat → Nat) (S : SS) (V : SL) (x1 : Int32) (x2 : Int32) (u : Int32 × SS × SL) (hF : f_X8_request S V x1 x2 = some u) : zM l yX8_request wsX8_request ({ frames := 7, cells := 0, slots := 0, locals := 162 }) D (zTy cI cJ cZ) [.ref (a8 0), .int x1, .int x2] (zwX8 cI cJ cZ a8 S V) (some (.int u.1)) (zwX8 cI cJ cZ a8 u.2.1 u.2.2) := by
  refine z_body (cc := cX8_request) (maxL := 5) (rty := (some .int)) (own := RX8) (lv := [(0, .ref (a8 0)), (1, .int x1), (2, .int x2)]) (by decide +kernel) rfl rfl (Nat.le_of_ble_eq_true rfl) rfl (fun p e s m args below meth c A C => ?_)
  refine z_aload_n C dX8_request_0 rfl 0 rfl ?_
  refine z_aload_n C dX8_request_1 rfl 0 rfl ?_
  refine z_iload_n C dX8_request_2 rfl 1 rfl ?_
  obtain ⟨r1, er1, hF⟩ := zbd hF
  refine z_callV (n := 1) (As := [.int x1]) (ws' := (zwX8 cI cJ cZ a8 S V)) C (c_X8_wasMade l D cI cJ cZ a8 S V x1 r1 er1) gX8_request_X8_wasMade rfl rfl rfl (by decide +kernel) ⟨Nat.le_of_ble_eq_true rfl, Nat.le_of_ble_eq_true rfl⟩ ⟨Nat.zero_le _, Nat.zero_le _⟩ 0 rfl rfl [] [] rfl rfl rfl rfl (Nat.le_of_ble_eq_true rfl) dX8_request_3 ?_
  refine z_if_ne (tgt := 13) C dX8_request_6 (by decide) (fun c2 => ?_) (fun c2 => ?_)
  · have hF := zelse hF c2
    refine z_iload_n C dX8_request_13 rfl 2 rfl ?_
    obtain ⟨r3, er3, hF⟩ := zbd hF
    refine z_callS (n := 1) (As := [.int x2]) C (c_X8_isPath l D cI cJ cZ x2 r3 er3) gX8_request_X8_isPath rfl rfl rfl (by decide +kernel) ⟨Nat.le_of_ble_eq_true rfl, Nat.le_of_ble_eq_true rfl⟩ ⟨Nat.zero_le _, Nat.zero_le _⟩ rfl rfl (Nat.le_of_ble_eq_true rfl) dX8_request_14 ?_
    refine z_if_ne (tgt := 24) C dX8_request_17 (by decide) (fun c4 => ?_) (fun c4 => ?_)
    · have hF := zelse hF c4
      refine z_aload_n C dX8_request_24 rfl 0 rfl ?_
      refine z_iload_n C dX8_request_25 rfl 1 rfl ?_
      refine z_iload_n C dX8_request_26 rfl 2 rfl ?_
      obtain ⟨r5, er5, hF⟩ := zbd hF
      refine z_callV (n := 2) (As := [.int x1, .int x2]) (ws' := (zwX8 cI cJ cZ a8 S V)) C (c_X8_reason l D cI cJ cZ a8 S V x1 x2 r5 er5) gX8_request_X8_reason rfl rfl rfl (by decide +kernel) ⟨Nat.le_of_ble_eq_true rfl, Nat.le_of_ble_eq_true rfl⟩ ⟨Nat.zero_le _, Nat.zero_le _⟩ 0 rfl rfl [] [] rfl rfl rfl rfl (Nat.le_of_ble_eq_true rfl) dX8_request_27 ?_
      refine z_if_ne (tgt := 46) C dX8_request_30 (by decide) (fun c6 => ?_) (fun c6 => ?_)
      · have hF := zelse hF c6
        exact c_X8_request_j46 l D cI cJ cZ a8 S V u C S V x1 x2 hF
      · have hF := zif hF c6
        refine z_aload_n C dX8_request_33 rfl 0 rfl ?_
        obtain ⟨r27, er27, hF⟩ := zbd hF
        refine z_callV (n := 0) (As := []) (ws' := (zwX8 cI cJ cZ a8 S V)) C (c_X8_manyCredentials l D cI cJ cZ a8 S V r27 er27) gX8_request_X8_manyCredentials rfl rfl rfl (by decide +kernel) ⟨Nat.le_of_ble_eq_true rfl, Nat.le_of_ble_eq_true rfl⟩ ⟨Nat.zero_le _, Nat.zero_le _⟩ 0 rfl rfl [] [] rfl rfl rfl rfl (Nat.le_of_ble_eq_true rfl) dX8_request_34 ?_
        refine z_bipush (v := 40) C dX8_request_37 (by decide) ?_
        refine z_icmp_ne (tgt := 46) C dX8_request_39 (by decide) (fun c28 => ?_) (fun c28 => ?_)
        · have hF := zelse hF c28
          exact c_X8_request_j46 l D cI cJ cZ a8 S V u C S V x1 x2 hF
        · have hF := zif hF c28
          refine z_iconst (v := 3) C dX8_request_42 (by decide) ?_
          refine z_goto (tgt := 47) C dX8_request_43 (by decide) ?_
          exact c_X8_request_j47 l D cI cJ cZ a8 S V u C S V x1 x2 3 hF
    · have hF := zif hF c4
      refine z_iconst (v := 2) C dX8_request_20 (by decide) ?_
      refine z_goto (tgt := 47) C dX8_request_21 (by decide) ?_
      exact c_X8_request_j47 l D cI cJ cZ a8 S V u C S V x1 x2 2 hF
  · have hF := zif hF c2
    refine z_iconst (v := 1) C dX8_request_9 (by decide) ?_
    refine z_goto (tgt := 47) C dX8_request_10 (by decide) ?_
    exact c_X8_request_j47 l D cI cJ cZ a8 S V u C S V x1 x2 1 hF
theorem kX8_whyDenied_88 : Cond.fieldLink RX8 88 "SecretBrokerModel" "thrown" "I" ∈ wsX8_whyDenied := by decide +kernel
theorem hX8_whyDenied_X8 : ∀ w ∈ wsX80, w ∈ wsX8_whyDenied := by decide +kernel
set_option maxHeartbeats 4000000 in
set_option maxRecDepth 100000 in
theorem c_X8_whyDenied (l : Launch) (D : va_G) (cI cJ cZ : ClassId) (a8 : Nat → Nat) (S : SS) (V : SL) (x1 : Int32) (x2 : Int32) (u : Int32 × SS) (hF : f_X8_whyDenied S x1 x2 = some u) : zM l yX8_whyDenied wsX8_whyDenied ({ frames := 7, cells := 0, slots := 0, locals := 162 }) D (zTy cI cJ cZ) [.ref (a8 0), .int x1, .int x2] (zwX8 cI cJ cZ a8 S V) (some (.int u.1)) (zwX8 cI cJ cZ a8 u.2 V) := by
  refine z_body (cc := cX8_whyDenied) (maxL := 3) (rty := (some .int)) (own := RX8) (lv := [(0, .ref (a8 0)), (1, .int x1), (2, .int x2)]) (by decide +kernel) rfl rfl (Nat.le_of_ble_eq_true rfl) rfl (fun p e s m args below meth c A C => ?_)
  refine z_aload_n C dX8_whyDenied_0 rfl 0 rfl ?_
  refine z_aload_n C dX8_whyDenied_1 rfl 0 rfl ?_
  refine z_iload_n C dX8_whyDenied_2 rfl 1 rfl ?_
  obtain ⟨r1, er1, hF⟩ := zbd hF
  refine z_callV (n := 1) (As := [.int x1]) (ws' := (zwX8 cI cJ cZ a8 S V)) C (c_X8_wasMade l D cI cJ cZ a8 S V x1 r1 er1) gX8_whyDenied_X8_wasMade rfl rfl rfl (by decide +kernel) ⟨Nat.le_of_ble_eq_true rfl, Nat.le_of_ble_eq_true rfl⟩ ⟨Nat.zero_le _, Nat.zero_le _⟩ 0 rfl rfl [] [] rfl rfl rfl rfl (Nat.le_of_ble_eq_true rfl) dX8_whyDenied_3 ?_
  refine z_if_ne (tgt := 13) C dX8_whyDenied_6 (by decide) (fun c2 => ?_) (fun c2 => ?_)
  · have hF := zelse hF c2
    refine z_iload_n C dX8_whyDenied_13 rfl 2 rfl ?_
    obtain ⟨r3, er3, hF⟩ := zbd hF
    refine z_callS (n := 1) (As := [.int x2]) C (c_X8_isPath l D cI cJ cZ x2 r3 er3) gX8_whyDenied_X8_isPath rfl rfl rfl (by decide +kernel) ⟨Nat.le_of_ble_eq_true rfl, Nat.le_of_ble_eq_true rfl⟩ ⟨Nat.zero_le _, Nat.zero_le _⟩ rfl rfl (Nat.le_of_ble_eq_true rfl) dX8_whyDenied_14 ?_
    refine z_if_ne (tgt := 24) C dX8_whyDenied_17 (by decide) (fun c4 => ?_) (fun c4 => ?_)
    · have hF := zelse hF c4
      refine z_iconst (v := 0) C dX8_whyDenied_24 (by decide) ?_
      refine z_put (ws' := (zwX8 cI cJ cZ a8 (zs S 0 0) V)) (ref := "SecretBrokerModel") (ty := .int) C hX8_whyDenied_X8 tyX8 tyX8_ok nmX8 0 rfl rfl 0 (by decide) kX8_whyDenied_88 (fun _ h9 => h9) rfl (by decide +kernel) rfl rfl (Nat.le_of_ble_eq_true rfl) dX8_whyDenied_25 (zs_val S 0 0) (zf_X8_0 cI cJ cZ a8 S V 0) ?_
      refine z_aload_n C dX8_whyDenied_28 rfl 0 rfl ?_
      refine z_get (ref := "SecretBrokerModel") (v := .int ((zs S 0 0) 0 0)) C hX8_whyDenied_X8 0 rfl rfl 0 (by decide) kX8_whyDenied_88 (fun _ h9 => h9) rfl dX8_whyDenied_29 ?_
      refine z_if_le (tgt := 39) C dX8_whyDenied_32 (by decide) (fun c5 => ?_) (fun c5 => ?_)
      · have hF := zif hF c5
        refine z_aload_n C dX8_whyDenied_39 rfl 0 rfl ?_
        refine z_iload_n C dX8_whyDenied_40 rfl 1 rfl ?_
        refine z_iload_n C dX8_whyDenied_41 rfl 2 rfl ?_
        obtain ⟨r6, er6, hF⟩ := zbd hF
        refine z_callV (n := 2) (As := [.int x1, .int x2]) (ws' := (zwX8 cI cJ cZ a8 (zs S 0 0) V)) C (c_X8_reason l D cI cJ cZ a8 (zs S 0 0) V x1 x2 r6 er6) gX8_whyDenied_X8_reason rfl rfl rfl (by decide +kernel) ⟨Nat.le_of_ble_eq_true rfl, Nat.le_of_ble_eq_true rfl⟩ ⟨Nat.zero_le _, Nat.zero_le _⟩ 0 rfl rfl [] [] rfl rfl rfl rfl (Nat.le_of_ble_eq_true rfl) dX8_whyDenied_42 ?_
        have hu := Option.some.inj hF
        subst hu
        exact z_iret C dX8_whyDenied_45 rfl rfl
      · have hF := zelse hF c5
        refine z_iconst (v := 0) C dX8_whyDenied_35 (by decide) ?_
        refine z_goto (tgt := 45) C dX8_whyDenied_36 (by decide) ?_
        have hu := Option.some.inj hF
        subst hu
        exact z_iret C dX8_whyDenied_45 rfl rfl
    · have hF := zif hF c4
      refine z_iconst (v := 2) C dX8_whyDenied_20 (by decide) ?_
      refine z_goto (tgt := 25) C dX8_whyDenied_21 (by decide) ?_
      refine z_put (ws' := (zwX8 cI cJ cZ a8 (zs S 0 2) V)) (ref := "SecretBrokerModel") (ty := .int) C hX8_whyDenied_X8 tyX8 tyX8_ok nmX8 0 rfl rfl 0 (by decide) kX8_whyDenied_88 (fun _ h9 => h9) rfl (by decide +kernel) rfl rfl (Nat.le_of_ble_eq_true rfl) dX8_whyDenied_25 (zs_val S 0 2) (zf_X8_0 cI cJ cZ a8 S V 2) ?_
      refine z_aload_n C dX8_whyDenied_28 rfl 0 rfl ?_
      refine z_get (ref := "SecretBrokerModel") (v := .int ((zs S 0 2) 0 0)) C hX8_whyDenied_X8 0 rfl rfl 0 (by decide) kX8_whyDenied_88 (fun _ h9 => h9) rfl dX8_whyDenied_29 ?_
      refine z_if_le (tgt := 39) C dX8_whyDenied_32 (by decide) (fun c7 => ?_) (fun c7 => ?_)
      · have hF := zif hF c7
        refine z_aload_n C dX8_whyDenied_39 rfl 0 rfl ?_
        refine z_iload_n C dX8_whyDenied_40 rfl 1 rfl ?_
        refine z_iload_n C dX8_whyDenied_41 rfl 2 rfl ?_
        obtain ⟨r8, er8, hF⟩ := zbd hF
        refine z_callV (n := 2) (As := [.int x1, .int x2]) (ws' := (zwX8 cI cJ cZ a8 (zs S 0 2) V)) C (c_X8_reason l D cI cJ cZ a8 (zs S 0 2) V x1 x2 r8 er8) gX8_whyDenied_X8_reason rfl rfl rfl (by decide +kernel) ⟨Nat.le_of_ble_eq_true rfl, Nat.le_of_ble_eq_true rfl⟩ ⟨Nat.zero_le _, Nat.zero_le _⟩ 0 rfl rfl [] [] rfl rfl rfl rfl (Nat.le_of_ble_eq_true rfl) dX8_whyDenied_42 ?_
        have hu := Option.some.inj hF
        subst hu
        exact z_iret C dX8_whyDenied_45 rfl rfl
      · have hF := zelse hF c7
        refine z_iconst (v := 0) C dX8_whyDenied_35 (by decide) ?_
        refine z_goto (tgt := 45) C dX8_whyDenied_36 (by decide) ?_
        have hu := Option.some.inj hF
        subst hu
        exact z_iret C dX8_whyDenied_45 rfl rfl
  · have hF := zif hF c2
    refine z_iconst (v := 1) C dX8_whyDenied_9 (by decide) ?_
    refine z_goto (tgt := 25) C dX8_whyDenied_10 (by decide) ?_
    refine z_put (ws' := (zwX8 cI cJ cZ a8 (zs S 0 1) V)) (ref := "SecretBrokerModel") (ty := .int) C hX8_whyDenied_X8 tyX8 tyX8_ok nmX8 0 rfl rfl 0 (by decide) kX8_whyDenied_88 (fun _ h9 => h9) rfl (by decide +kernel) rfl rfl (Nat.le_of_ble_eq_true rfl) dX8_whyDenied_25 (zs_val S 0 1) (zf_X8_0 cI cJ cZ a8 S V 1) ?_
    refine z_aload_n C dX8_whyDenied_28 rfl 0 rfl ?_
    refine z_get (ref := "SecretBrokerModel") (v := .int ((zs S 0 1) 0 0)) C hX8_whyDenied_X8 0 rfl rfl 0 (by decide) kX8_whyDenied_88 (fun _ h9 => h9) rfl dX8_whyDenied_29 ?_
    refine z_if_le (tgt := 39) C dX8_whyDenied_32 (by decide) (fun c9 => ?_) (fun c9 => ?_)
    · have hF := zif hF c9
      refine z_aload_n C dX8_whyDenied_39 rfl 0 rfl ?_
      refine z_iload_n C dX8_whyDenied_40 rfl 1 rfl ?_
      refine z_iload_n C dX8_whyDenied_41 rfl 2 rfl ?_
      obtain ⟨r10, er10, hF⟩ := zbd hF
      refine z_callV (n := 2) (As := [.int x1, .int x2]) (ws' := (zwX8 cI cJ cZ a8 (zs S 0 1) V)) C (c_X8_reason l D cI cJ cZ a8 (zs S 0 1) V x1 x2 r10 er10) gX8_whyDenied_X8_reason rfl rfl rfl (by decide +kernel) ⟨Nat.le_of_ble_eq_true rfl, Nat.le_of_ble_eq_true rfl⟩ ⟨Nat.zero_le _, Nat.zero_le _⟩ 0 rfl rfl [] [] rfl rfl rfl rfl (Nat.le_of_ble_eq_true rfl) dX8_whyDenied_42 ?_
      have hu := Option.some.inj hF
      subst hu
      exact z_iret C dX8_whyDenied_45 rfl rfl
    · have hF := zelse hF c9
      refine z_iconst (v := 0) C dX8_whyDenied_35 (by decide) ?_
      refine z_goto (tgt := 45) C dX8_whyDenied_36 (by decide) ?_
      have hu := Option.some.inj hF
      subst hu
      exact z_iret C dX8_whyDenied_45 rfl rfl
