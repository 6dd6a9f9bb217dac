set_option maxHeartbeats 4000000 in
set_option maxRecDepth 100000 in
theorem c_L_law_j471 (l : Launch) (hl : l.stackTraces = false) (D : va_G) (cI cJ cZ : ClassId) (ab : Nat) (a5 a3 a6 a1 a0 aw : Nat → Nat) (u : Nat) {p : Program} {e : Env} {s : State} {m : MethodId} {below : List Frame} {meth : Method} {c : Code} {b sL : Nat} {xs : Nat → Int32} (C : zC p s m #[.ref b] meth c cL_law 22 ret RL wsL_law D (zTy cI cJ cZ) (zAq s) s.heap) (XE : zE (zAq s) s s.heap) (XN : zN s) (hX : va_X b sL xs s s.heap) (hbl : b < s.heap.size) (cl sl : Nat) (hc : cl + 6 ≤ 8000) (hs : sl + 36 ≤ 60000) (k100 : SS → SS → SS → SS → SS → SS → SL → SS → SL → Nat → Int32 → Option Nat) (hk100 : ∀ (Bc : SS) (Pc : SS) (Mc : SS) (Tc : SS) (Kc : SS) (Uc : SS) (Lc : SL) (Wc : SS) (Oc : SL) (Nc : Nat) (v10 : Int32), k100 Bc Pc Mc Tc Kc Uc Lc Wc Oc Nc v10 = some u → zW p l e room_R s m #[.ref b] below meth c 22 D (zAq s) (zpad s.heap Nc) (cl + 6) (sl + 36) (lw_Z2 below s u) (zwX7 cI cJ cZ ab a5 a3 a6 a1 a0 Bc Pc Mc Tc Kc Uc Lc ++ zwW cI cJ cZ aw Wc Oc) [(0, .ref b), (1, .ref ab), (2, .ref (aw 0)), (3, .ref (aw 1)), (4, .ref (aw 2)), (5, .ref (aw 3)), (6, .ref (aw 4)), (7, .ref (aw 5)), (8, .ref (aw 6)), (9, .ref (aw 7)), (10, .int v10)] 100 []) : ∀ (n : Nat) (Bc : SS) (Pc : SS) (Mc : SS) (Tc : SS) (Kc : SS) (Uc : SS) (Lc : SL) (Wc : SS) (Oc : SL) (Nc : Nat) (v10 : Int32) (v11 : Int32) (v12 : Int32) (v17 : Int32) (v18 : Int32), f_L_law_471 xs sL k100 n Bc Pc Mc Tc Kc Uc Lc Wc Oc Nc v10 v11 v12 v17 v18 = some u → zW p l e room_R s m #[.ref b] below meth c 22 D (zAq s) (zpad s.heap Nc) (cl + 2) (sl + 12) (lw_Z2 below s u) (zwX7 cI cJ cZ ab a5 a3 a6 a1 a0 Bc Pc Mc Tc Kc Uc Lc ++ zwW cI cJ cZ aw Wc Oc) [(0, .ref b), (1, .ref ab), (2, .ref (aw 0)), (3, .ref (aw 1)), (4, .ref (aw 2)), (5, .ref (aw 3)), (6, .ref (aw 4)), (7, .ref (aw 5)), (8, .ref (aw 6)), (9, .ref (aw 7)), (10, .int v10), (11, .int v11), (12, .int v12), (17, .int v17), (18, .int v18)] 471 [] := by
  intro n
  induction n with
  | zero => intro Bc Pc Mc Tc Kc Uc Lc Wc Oc Nc v10 v11 v12 v17 v18 hF; exact absurd (show none = some u from hF) (fun q => nomatch q)
  | succ n ih =>
    intro Bc Pc Mc Tc Kc Uc Lc Wc Oc Nc v10 v11 v12 v17 v18 hF
    have hf0 : cl + 0 ≤ room_R.cells ∧ sl + 0 ≤ room_R.slots := ⟨by show _ ≤ 8000; omega, by show _ ≤ 60000; omega⟩
    have hf1 : cl + 1 ≤ room_R.cells ∧ sl + 6 ≤ room_R.slots := ⟨by show _ ≤ 8000; omega, by show _ ≤ 60000; omega⟩
    have hf2 : cl + 2 ≤ room_R.cells ∧ sl + 12 ≤ room_R.slots := ⟨by show _ ≤ 8000; omega, by show _ ≤ 60000; omega⟩
    have hf3 : cl + 3 ≤ room_R.cells ∧ sl + 18 ≤ room_R.slots := ⟨by show _ ≤ 8000; omega, by show _ ≤ 60000; omega⟩
    have hf4 : cl + 4 ≤ room_R.cells ∧ sl + 24 ≤ room_R.slots := ⟨by show _ ≤ 8000; omega, by show _ ≤ 60000; omega⟩
    have hf5 : cl + 5 ≤ room_R.cells ∧ sl + 30 ≤ room_R.slots := ⟨by show _ ≤ 8000; omega, by show _ ≤ 60000; omega⟩
    have hf6 : cl + 6 ≤ room_R.cells ∧ sl + 36 ≤ room_R.slots := ⟨by show _ ≤ 8000; omega, by show _ ≤ 60000; omega⟩
    have hbA : ¬ zAq s b := Nat.not_le.mpr hbl
    refine z_iload (zC_pad Nc C) dL_law_471 14 rfl ?_
    refine z_aload_n (zC_pad Nc C) dL_law_473 rfl 2 rfl ?_
    refine z_iconst (v := 2) (zC_pad Nc C) dL_law_474 (by decide) ?_
    obtain ⟨g196, hF⟩ := zix_some hF
    refine z_iald (v := ((Wc 0) (2 : Int32).toNatClampNeg)) (zC_pad Nc C) g196 30 rfl rfl rfl dL_law_475 ?_
    refine z_icmp_ge (tgt := 497) (zC_pad Nc C) dL_law_476 (by decide) (fun c197 => ?_) (fun c197 => ?_)
    · have hF := zif hF c197
      exact c_L_law_j497 l hl D cI cJ cZ ab a5 a3 a6 a1 a0 aw u C XE XN hX hbl cl sl (by omega) (by omega) k100 hk100 Bc Pc Mc Tc Kc Uc Lc Wc Oc Nc v10 v11 v12 v17 v18 hF
    · have hF := zelse hF c197
      refine z_aload (zC_pad Nc C) dL_law_479 8 rfl ?_
      refine z_iconst (v := 3) (zC_pad Nc C) dL_law_481 (by decide) ?_
      refine z_iload (zC_pad Nc C) dL_law_482 14 rfl ?_
      refine z_imul (zC_pad Nc C) dL_law_484 ?_
      obtain ⟨g214, hF⟩ := zix_some hF
      refine z_iald (v := ((Wc 6) (3 * v18).toNatClampNeg)) (zC_pad Nc C) g214 36 rfl rfl rfl dL_law_485 ?_
      refine z_iload (zC_pad Nc C) dL_law_486 13 rfl ?_
      refine z_icmp_eq (tgt := 497) (zC_pad Nc C) dL_law_488 (by decide) (fun c215 => ?_) (fun c215 => ?_)
      · have hF := zif hF c215
        exact c_L_law_j497 l hl D cI cJ cZ ab a5 a3 a6 a1 a0 aw u C XE XN hX hbl cl sl (by omega) (by omega) k100 hk100 Bc Pc Mc Tc Kc Uc Lc Wc Oc Nc v10 v11 v12 v17 v18 hF
      · have hF := zelse hF c215
        refine z_iinc (v := (v18 + 1)) (lv' := [(18, .int (v18 + 1)), (0, .ref b), (1, .ref ab), (2, .ref (aw 0)), (3, .ref (aw 1)), (4, .ref (aw 2)), (5, .ref (aw 3)), (6, .ref (aw 4)), (7, .ref (aw 5)), (8, .ref (aw 6)), (9, .ref (aw 7)), (10, .int v10), (11, .int v11), (12, .int v12), (17, .int v17)]) (zC_pad Nc C) dL_law_491 14 rfl rfl (by decide) rfl ?_
        refine z_goto (tgt := 471) (zC_pad Nc C) dL_law_494 (by decide) ?_
        exact z_sub (zC_pad Nc C) [1, 2, 3, 4, 5, 6, 7, 8, 9, 10, 11, 12, 13, 14, 0] rfl (ih Bc Pc Mc Tc Kc Uc Lc Wc Oc Nc v10 v11 v12 v17 (v18 + 1) hF)
set_option maxHeartbeats 4000000 in
set_option maxRecDepth 100000 in
theorem c_L_law_j434 (l : Launch) (hl : l.stackTraces = false) (D : va_G) (cI cJ cZ : ClassId) (ab : Nat) (a5 a3 a6 a1 a0 aw : Nat → Nat) (u : Nat) {p : Program} {e : Env} {s : State} {m : MethodId} {below : List Frame} {meth : Method} {c : Code} {b sL : Nat} {xs : Nat → Int32} (C : zC p s m #[.ref b] meth c cL_law 22 ret RL wsL_law D (zTy cI cJ cZ) (zAq s) s.heap) (XE : zE (zAq s) s s.heap) (XN : zN s) (hX : va_X b sL xs s s.heap) (hbl : b < s.heap.size) (cl sl : Nat) (hc : cl + 6 ≤ 8000) (hs : sl + 36 ≤ 60000) (k100 : SS → SS → SS → SS → SS → SS → SL → SS → SL → Nat → Int32 → Option Nat) (hk100 : ∀ (Bc : SS) (Pc : SS) (Mc : SS) (Tc : SS) (Kc : SS) (Uc : SS) (Lc : SL) (Wc : SS) (Oc : SL) (Nc : Nat) (v10 : Int32), k100 Bc Pc Mc Tc Kc Uc Lc Wc Oc Nc v10 = some u → zW p l e room_R s m #[.ref b] below meth c 22 D (zAq s) (zpad s.heap Nc) (cl + 6) (sl + 36) (lw_Z2 below s u) (zwX7 cI cJ cZ ab a5 a3 a6 a1 a0 Bc Pc Mc Tc Kc Uc Lc ++ zwW cI cJ cZ aw Wc Oc) [(0, .ref b), (1, .ref ab), (2, .ref (aw 0)), (3, .ref (aw 1)), (4, .ref (aw 2)), (5, .ref (aw 3)), (6, .ref (aw 4)), (7, .ref (aw 5)), (8, .ref (aw 6)), (9, .ref (aw 7)), (10, .int v10)] 100 []) (Bc : SS) (Pc : SS) (Mc : SS) (Tc : SS) (Kc : SS) (Uc : SS) (Lc : SL) (Wc : SS) (Oc : SL) (Nc : Nat) (v10 : Int32) (v11 : Int32) (v17 : Int32) (v20 : Int32) (s1 : Int32) (s2 : Int32) (s3 : Int32) (hF : f_L_law_434 xs sL k100 Bc Pc Mc Tc Kc Uc Lc Wc Oc Nc v10 v11 v17 v20 s1 s2 s3 = some u) : zW p l e room_R s m #[.ref b] below meth c 22 D (zAq s) (zpad s.heap Nc) (cl + 2) (sl + 12) (lw_Z2 below s u) (zwX7 cI cJ cZ ab a5 a3 a6 a1 a0 Bc Pc Mc Tc Kc Uc Lc ++ zwW cI cJ cZ aw Wc Oc) [(0, .ref b), (1, .ref ab), (2, .ref (aw 0)), (3, .ref (aw 1)), (4, .ref (aw 2)), (5, .ref (aw 3)), (6, .ref (aw 4)), (7, .ref (aw 5)), (8, .ref (aw 6)), (9, .ref (aw 7)), (10, .int v10), (11, .int v11), (17, .int v17), (20, .int v20)] 434 [.int s3, .int s2, .int s1, .ref ab] := by
  unfold f_L_law_434 at hF
  have hf0 : cl + 0 ≤ room_R.cells ∧ sl + 0 ≤ room_R.slots := ⟨by show _ ≤ 8000; omega, by show _ ≤ 60000; omega⟩
  have hf1 : cl + 1 ≤ room_R.cells ∧ sl + 6 ≤ room_R.slots := ⟨by show _ ≤ 8000; omega, by show _ ≤ 60000; omega⟩
  have hf2 : cl + 2 ≤ room_R.cells ∧ sl + 12 ≤ room_R.slots := ⟨by show _ ≤ 8000; omega, by show _ ≤ 60000; omega⟩
  have hf3 : cl + 3 ≤ room_R.cells ∧ sl + 18 ≤ room_R.slots := ⟨by show _ ≤ 8000; omega, by show _ ≤ 60000; omega⟩
  have hf4 : cl + 4 ≤ room_R.cells ∧ sl + 24 ≤ room_R.slots := ⟨by show _ ≤ 8000; omega, by show _ ≤ 60000; omega⟩
  have hf5 : cl + 5 ≤ room_R.cells ∧ sl + 30 ≤ room_R.slots := ⟨by show _ ≤ 8000; omega, by show _ ≤ 60000; omega⟩
  have hf6 : cl + 6 ≤ room_R.cells ∧ sl + 36 ≤ room_R.slots := ⟨by show _ ≤ 8000; omega, by show _ ≤ 60000; omega⟩
  have hbA : ¬ zAq s b := Nat.not_le.mpr hbl
  refine z_iload (zC_pad Nc C) dL_law_434 13 rfl ?_
  obtain ⟨r234, er234, hF⟩ := zok_some hF
  refine z_gcallV_R (n := 4) (As := [.int s1, .int s2, .int s3, .int v20]) (ws' := (zwX7 cI cJ cZ ab a5 a3 a6 a1 a0 Bc r234.2 Mc Tc Kc Uc Lc ++ zwW cI cJ cZ aw Wc Oc)) (zC_pad Nc C) C XE (zhb_p C) (c_X7_allow l hl D cI cJ cZ ab a5 a3 a6 a1 a0 Bc Pc Mc Tc Kc Uc Lc s1 s2 s3 v20 (.inr r234) er234) gL_law_X7_allow rfl (by decide +kernel) ⟨Nat.le_of_ble_eq_true rfl, Nat.le_of_ble_eq_true rfl⟩ hf2 0 rfl rfl [] (zwW cI cJ cZ aw Wc Oc) rfl rfl rfl rfl (Nat.le_of_ble_eq_true rfl) dL_law_436 ?_
  refine z_aload (zC_pad Nc C) dL_law_439 7 rfl ?_
  refine z_iload (zC_pad Nc C) dL_law_441 12 rfl ?_
  obtain ⟨g235, hF⟩ := zix_some hF
  refine z_iald (v := ((Wc 5) v17.toNatClampNeg)) (zC_pad Nc C) g235 35 rfl rfl rfl dL_law_443 ?_
  refine z_icmp_eq (tgt := 449) (zC_pad Nc C) dL_law_444 (by decide) (fun c236 => ?_) (fun c236 => ?_)
  · have hF := zif hF c236
    refine z_goto (tgt := 1930) (zC_pad Nc C) dL_law_449 (by decide) ?_
    refine z_iwiden (k := cl + 3) (n := sl + 18) (by omega) (by omega) ?_
    exact z_sub (zC_pad Nc C) [0, 1, 2, 3, 4, 5, 6, 7, 8, 9, 10, 11] rfl (c_L_law_j1930 l hl D cI cJ cZ ab a5 a3 a6 a1 a0 aw u C XE XN hX hbl cl sl (by omega) (by omega) k100 hk100 Bc r234.2 Mc Tc Kc Uc Lc Wc Oc Nc v10 v11 hF)
  · have hF := zelse hF c236
    refine z_iconst (v := 0) (zC_pad Nc C) dL_law_447 (by decide) ?_
    exact absurd hF (fun q => nomatch q)
set_option maxHeartbeats 4000000 in
set_option maxRecDepth 100000 in
theorem c_L_law_j396 (l : Launch) (hl : l.stackTraces = false) (D : va_G) (cI cJ cZ : ClassId) (ab : Nat) (a5 a3 a6 a1 a0 aw : Nat → Nat) (u : Nat) {p : Program} {e : Env} {s : State} {m : MethodId} {below : List Frame} {meth : Method} {c : Code} {b sL : Nat} {xs : Nat → Int32} (C : zC p s m #[.ref b] meth c cL_law 22 ret RL wsL_law D (zTy cI cJ cZ) (zAq s) s.heap) (XE : zE (zAq s) s s.heap) (XN : zN s) (hX : va_X b sL xs s s.heap) (hbl : b < s.heap.size) (cl sl : Nat) (hc : cl + 6 ≤ 8000) (hs : sl + 36 ≤ 60000) (k100 : SS → SS → SS → SS → SS → SS → SL → SS → SL → Nat → Int32 → Option Nat) (hk100 : ∀ (Bc : SS) (Pc : SS) (Mc : SS) (Tc : SS) (Kc : SS) (Uc : SS) (Lc : SL) (Wc : SS) (Oc : SL) (Nc : Nat) (v10 : Int32), k100 Bc Pc Mc Tc Kc Uc Lc Wc Oc Nc v10 = some u → zW p l e room_R s m #[.ref b] below meth c 22 D (zAq s) (zpad s.heap Nc) (cl + 6) (sl + 36) (lw_Z2 below s u) (zwX7 cI cJ cZ ab a5 a3 a6 a1 a0 Bc Pc Mc Tc Kc Uc Lc ++ zwW cI cJ cZ aw Wc Oc) [(0, .ref b), (1, .ref ab), (2, .ref (aw 0)), (3, .ref (aw 1)), (4, .ref (aw 2)), (5, .ref (aw 3)), (6, .ref (aw 4)), (7, .ref (aw 5)), (8, .ref (aw 6)), (9, .ref (aw 7)), (10, .int v10)] 100 []) (Bc : SS) (Pc : SS) (Mc : SS) (Tc : SS) (Kc : SS) (Uc : SS) (Lc : SL) (Wc : SS) (Oc : SL) (Nc : Nat) (v10 : Int32) (v11 : Int32) (v17 : Int32) (v18 : Int32) (v19 : Int32) (v20 : Int32) (v21 : Int32) (s1 : Int32) (s2 : Int32) (s3 : Int32) (hF : f_L_law_396 xs sL k100 Bc Pc Mc Tc Kc Uc Lc Wc Oc Nc v10 v11 v17 v18 v19 v20 v21 s1 s2 s3 = some u) : zW p l e room_R s m #[.ref b] below meth c 22 D (zAq s) (zpad s.heap Nc) (cl + 2) (sl + 12) (lw_Z2 below s u) (zwX7 cI cJ cZ ab a5 a3 a6 a1 a0 Bc Pc Mc Tc Kc Uc Lc ++ zwW cI cJ cZ aw Wc Oc) [(0, .ref b), (1, .ref ab), (2, .ref (aw 0)), (3, .ref (aw 1)), (4, .ref (aw 2)), (5, .ref (aw 3)), (6, .ref (aw 4)), (7, .ref (aw 5)), (8, .ref (aw 6)), (9, .ref (aw 7)), (10, .int v10), (11, .int v11), (17, .int v17), (18, .int v18), (19, .int v19), (20, .int v20), (21, .int v21)] 396 [.int s3, .int s2, .int s1, .ref (aw 5)] := by
  unfold f_L_law_396 at hF
  have hf0 : cl + 0 ≤ room_R.cells ∧ sl + 0 ≤ room_R.slots := ⟨by show _ ≤ 8000; omega, by show _ ≤ 60000; omega⟩
  have hf1 : cl + 1 ≤ room_R.cells ∧ sl + 6 ≤ room_R.slots := ⟨by show _ ≤ 8000; omega, by show _ ≤ 60000; omega⟩
  have hf2 : cl + 2 ≤ room_R.cells ∧ sl + 12 ≤ room_R.slots := ⟨by show _ ≤ 8000; omega, by show _ ≤ 60000; omega⟩
  have hf3 : cl + 3 ≤ room_R.cells ∧ sl + 18 ≤ room_R.slots := ⟨by show _ ≤ 8000; omega, by show _ ≤ 60000; omega⟩
  have hf4 : cl + 4 ≤ room_R.cells ∧ sl + 24 ≤ room_R.slots := ⟨by show _ ≤ 8000; omega, by show _ ≤ 60000; omega⟩
  have hf5 : cl + 5 ≤ room_R.cells ∧ sl + 30 ≤ room_R.slots := ⟨by show _ ≤ 8000; omega, by show _ ≤ 60000; omega⟩
  have hf6 : cl + 6 ≤ room_R.cells ∧ sl + 36 ≤ room_R.slots := ⟨by show _ ≤ 8000; omega, by show _ ≤ 60000; omega⟩
  have hbA : ¬ zAq s b := Nat.not_le.mpr hbl
  refine z_iadd (zC_pad Nc C) dL_law_396 ?_
  obtain ⟨g230, hF⟩ := zix_some hF
  refine z_iast (ws' := (zwX7 cI cJ cZ ab a5 a3 a6 a1 a0 Bc Pc Mc Tc Kc Uc Lc ++ zwW cI cJ cZ aw (za Wc 5 s1 (s2 + s3)) Oc)) (zC_pad Nc C) g230 35 rfl rfl dL_law_397 (za_row Wc 5 s1 (s2 + s3)) (zq_W_5 cI cJ cZ ab a5 a3 a6 a1 a0 Bc Pc Mc Tc Kc Uc Lc aw Wc Oc s1 (s2 + s3)) ?_
  refine z_aload (zC_pad Nc C) dL_law_398 5 rfl ?_
  refine z_iload (zC_pad Nc C) dL_law_400 16 rfl ?_
  refine z_bipush (v := 10) (zC_pad Nc C) dL_law_402 (by decide) ?_
  refine z_iload (zC_pad Nc C) dL_law_404 13 rfl ?_
  refine z_imul (zC_pad Nc C) dL_law_406 ?_
  refine z_iload (zC_pad Nc C) dL_law_407 14 rfl ?_
  refine z_iadd (zC_pad Nc C) dL_law_409 ?_
  obtain ⟨g231, hF⟩ := zix_some hF
  refine z_iast (ws' := (zwX7 cI cJ cZ ab a5 a3 a6 a1 a0 Bc Pc Mc Tc Kc Uc Lc ++ zwW cI cJ cZ aw (za (za Wc 5 s1 (s2 + s3)) 3 v21 ((10 * v18) + v19)) Oc)) (zC_pad Nc C) g231 33 rfl rfl dL_law_410 (za_row (za Wc 5 s1 (s2 + s3)) 3 v21 ((10 * v18) + v19)) (zq_W_3 cI cJ cZ ab a5 a3 a6 a1 a0 Bc Pc Mc Tc Kc Uc Lc aw (za Wc 5 s1 (s2 + s3)) Oc v21 ((10 * v18) + v19)) ?_
  refine z_aload (zC_pad Nc C) dL_law_411 6 rfl ?_
  refine z_iload (zC_pad Nc C) dL_law_413 16 rfl ?_
  refine z_iload (zC_pad Nc C) dL_law_415 15 rfl ?_
  obtain ⟨g232, hF⟩ := zix_some hF
  refine z_iast (ws' := (zwX7 cI cJ cZ ab a5 a3 a6 a1 a0 Bc Pc Mc Tc Kc Uc Lc ++ zwW cI cJ cZ aw (za (za (za Wc 5 s1 (s2 + s3)) 3 v21 ((10 * v18) + v19)) 4 v21 v20) Oc)) (zC_pad Nc C) g232 34 rfl rfl dL_law_417 (za_row (za (za Wc 5 s1 (s2 + s3)) 3 v21 ((10 * v18) + v19)) 4 v21 v20) (zq_W_4 cI cJ cZ ab a5 a3 a6 a1 a0 Bc Pc Mc Tc Kc Uc Lc aw (za (za Wc 5 s1 (s2 + s3)) 3 v21 ((10 * v18) + v19)) Oc v21 v20) ?_
  refine z_aload_n (zC_pad Nc C) dL_law_418 rfl 1 rfl ?_
  refine z_iload (zC_pad Nc C) dL_law_419 12 rfl ?_
  refine z_iload (zC_pad Nc C) dL_law_421 13 rfl ?_
  refine z_iload (zC_pad Nc C) dL_law_423 14 rfl ?_
  refine z_iconst (v := 1) (zC_pad Nc C) dL_law_425 (by decide) ?_
  refine z_icmp_ne (tgt := 433) (zC_pad Nc C) dL_law_426 (by decide) (fun c233 => ?_) (fun c233 => ?_)
  · have hF := zelse hF c233
    refine z_iconst (v := 0) (zC_pad Nc C) dL_law_433 (by decide) ?_
    exact z_sub (zC_pad Nc C) [0, 1, 2, 3, 4, 5, 6, 7, 8, 9, 10, 11, 12, 15] rfl (c_L_law_j434 l hl D cI cJ cZ ab a5 a3 a6 a1 a0 aw u C XE XN hX hbl cl sl (by omega) (by omega) k100 hk100 Bc Pc Mc Tc Kc Uc Lc (za (za (za Wc 5 s1 (s2 + s3)) 3 v21 ((10 * v18) + v19)) 4 v21 v20) Oc Nc v10 v11 v17 v20 v17 v18 0 hF)
  · have hF := zif hF c233
    refine z_iconst (v := 1) (zC_pad Nc C) dL_law_429 (by decide) ?_
    refine z_goto (tgt := 434) (zC_pad Nc C) dL_law_430 (by decide) ?_
    exact z_sub (zC_pad Nc C) [0, 1, 2, 3, 4, 5, 6, 7, 8, 9, 10, 11, 12, 15] rfl (c_L_law_j434 l hl D cI cJ cZ ab a5 a3 a6 a1 a0 aw u C XE XN hX hbl cl sl (by omega) (by omega) k100 hk100 Bc Pc Mc Tc Kc Uc Lc (za (za (za Wc 5 s1 (s2 + s3)) 3 v21 ((10 * v18) + v19)) 4 v21 v20) Oc Nc v10 v11 v17 v20 v17 v18 1 hF)
set_option maxHeartbeats 4000000 in
set_option maxRecDepth 100000 in
theorem c_L_law_j353 (l : Launch) (hl : l.stackTraces = false) (D : va_G) (cI cJ cZ : ClassId) (ab : Nat) (a5 a3 a6 a1 a0 aw : Nat → Nat) (u : Nat) {p : Program} {e : Env} {s : State} {m : MethodId} {below : List Frame} {meth : Method} {c : Code} {b sL : Nat} {xs : Nat → Int32} (C : zC p s m #[.ref b] meth c cL_law 22 ret RL wsL_law D (zTy cI cJ cZ) (zAq s) s.heap) (XE : zE (zAq s) s s.heap) (XN : zN s) (hX : va_X b sL xs s s.heap) (hbl : b < s.heap.size) (cl sl : Nat) (hc : cl + 6 ≤ 8000) (hs : sl + 36 ≤ 60000) (k100 : SS → SS → SS → SS → SS → SS → SL → SS → SL → Nat → Int32 → Option Nat) (hk100 : ∀ (Bc : SS) (Pc : SS) (Mc : SS) (Tc : SS) (Kc : SS) (Uc : SS) (Lc : SL) (Wc : SS) (Oc : SL) (Nc : Nat) (v10 : Int32), k100 Bc Pc Mc Tc Kc Uc Lc Wc Oc Nc v10 = some u → zW p l e room_R s m #[.ref b] below meth c 22 D (zAq s) (zpad s.heap Nc) (cl + 6) (sl + 36) (lw_Z2 below s u) (zwX7 cI cJ cZ ab a5 a3 a6 a1 a0 Bc Pc Mc Tc Kc Uc Lc ++ zwW cI cJ cZ aw Wc Oc) [(0, .ref b), (1, .ref ab), (2, .ref (aw 0)), (3, .ref (aw 1)), (4, .ref (aw 2)), (5, .ref (aw 3)), (6, .ref (aw 4)), (7, .ref (aw 5)), (8, .ref (aw 6)), (9, .ref (aw 7)), (10, .int v10)] 100 []) (Bc : SS) (Pc : SS) (Mc : SS) (Tc : SS) (Kc : SS) (Uc : SS) (Lc : SL) (Wc : SS) (Oc : SL) (Nc : Nat) (v10 : Int32) (v11 : Int32) (v17 : Int32) (v18 : Int32) (v19 : Int32) (v20 : Int32) (v21 : Int32) (hF : f_L_law_353 xs sL k100 Bc Pc Mc Tc Kc Uc Lc Wc Oc Nc v10 v11 v17 v18 v19 v20 v21 = some u) : zW p l e room_R s m #[.ref b] below meth c 22 D (zAq s) (zpad s.heap Nc) (cl + 2) (sl + 12) (lw_Z2 below s u) (zwX7 cI cJ cZ ab a5 a3 a6 a1 a0 Bc Pc Mc Tc Kc Uc Lc ++ zwW cI cJ cZ aw Wc Oc) [(0, .ref b), (1, .ref ab), (2, .ref (aw 0)), (3, .ref (aw 1)), (4, .ref (aw 2)), (5, .ref (aw 3)), (6, .ref (aw 4)), (7, .ref (aw 5)), (8, .ref (aw 6)), (9, .ref (aw 7)), (10, .int v10), (11, .int v11), (17, .int v17), (18, .int v18), (19, .int v19), (20, .int v20), (21, .int v21)] 353 [] := by
  unfold f_L_law_353 at hF
  have hf0 : cl + 0 ≤ room_R.cells ∧ sl + 0 ≤ room_R.slots := ⟨by show _ ≤ 8000; omega, by show _ ≤ 60000; omega⟩
  have hf1 : cl + 1 ≤ room_R.cells ∧ sl + 6 ≤ room_R.slots := ⟨by show _ ≤ 8000; omega, by show _ ≤ 60000; omega⟩
  have hf2 : cl + 2 ≤ room_R.cells ∧ sl + 12 ≤ room_R.slots := ⟨by show _ ≤ 8000; omega, by show _ ≤ 60000; omega⟩
  have hf3 : cl + 3 ≤ room_R.cells ∧ sl + 18 ≤ room_R.slots := ⟨by show _ ≤ 8000; omega, by show _ ≤ 60000; omega⟩
  have hf4 : cl + 4 ≤ room_R.cells ∧ sl + 24 ≤ room_R.slots := ⟨by show _ ≤ 8000; omega, by show _ ≤ 60000; omega⟩
  have hf5 : cl + 5 ≤ room_R.cells ∧ sl + 30 ≤ room_R.slots := ⟨by show _ ≤ 8000; omega, by show _ ≤ 60000; omega⟩
  have hf6 : cl + 6 ≤ room_R.cells ∧ sl + 36 ≤ room_R.slots := ⟨by show _ ≤ 8000; omega, by show _ ≤ 60000; omega⟩
  have hbA : ¬ zAq s b := Nat.not_le.mpr hbl
  refine z_iload (zC_pad Nc C) dL_law_353 16 rfl ?_
  refine z_bipush (v := 6) (zC_pad Nc C) dL_law_355 (by decide) ?_
  refine z_iload (zC_pad Nc C) dL_law_357 12 rfl ?_
  refine z_imul (zC_pad Nc C) dL_law_359 ?_
  refine z_bipush (v := 6) (zC_pad Nc C) dL_law_360 (by decide) ?_
  refine z_iadd (zC_pad Nc C) dL_law_362 ?_
  refine z_icmp_ne (tgt := 369) (zC_pad Nc C) dL_law_363 (by decide) (fun c226 => ?_) (fun c226 => ?_)
  · have hF := zelse hF c226
    refine z_aload (zC_pad Nc C) dL_law_369 7 rfl ?_
    refine z_iload (zC_pad Nc C) dL_law_371 12 rfl ?_
    refine z_dup2 (zC_pad Nc C) dL_law_373 rfl rfl ?_
    obtain ⟨g227, hF⟩ := zix_some hF
    refine z_iald (v := ((Wc 5) v17.toNatClampNeg)) (zC_pad Nc C) g227 35 rfl rfl rfl dL_law_374 ?_
    refine z_iload (zC_pad Nc C) dL_law_375 16 rfl ?_
    refine z_bipush (v := 6) (zC_pad Nc C) dL_law_377 (by decide) ?_
    refine z_iload (zC_pad Nc C) dL_law_379 12 rfl ?_
    refine z_imul (zC_pad Nc C) dL_law_381 ?_
    refine z_aload (zC_pad Nc C) dL_law_382 7 rfl ?_
    refine z_iload (zC_pad Nc C) dL_law_384 12 rfl ?_
    obtain ⟨g228, hF⟩ := zix_some hF
    refine z_iald (v := ((Wc 5) v17.toNatClampNeg)) (zC_pad Nc C) g228 35 rfl rfl rfl dL_law_386 ?_
    refine z_iadd (zC_pad Nc C) dL_law_387 ?_
    refine z_icmp_ne (tgt := 395) (zC_pad Nc C) dL_law_388 (by decide) (fun c229 => ?_) (fun c229 => ?_)
    · have hF := zelse hF c229
      refine z_iconst (v := 0) (zC_pad Nc C) dL_law_395 (by decide) ?_
      exact c_L_law_j396 l hl D cI cJ cZ ab a5 a3 a6 a1 a0 aw u C XE XN hX hbl cl sl (by omega) (by omega) k100 hk100 Bc Pc Mc Tc Kc Uc Lc Wc Oc Nc v10 v11 v17 v18 v19 v20 v21 v17 ((Wc 5) v17.toNatClampNeg) 0 hF
    · have hF := zif hF c229
      refine z_iconst (v := 1) (zC_pad Nc C) dL_law_391 (by decide) ?_
      refine z_goto (tgt := 396) (zC_pad Nc C) dL_law_392 (by decide) ?_
      exact c_L_law_j396 l hl D cI cJ cZ ab a5 a3 a6 a1 a0 aw u C XE XN hX hbl cl sl (by omega) (by omega) k100 hk100 Bc Pc Mc Tc Kc Uc Lc Wc Oc Nc v10 v11 v17 v18 v19 v20 v21 v17 ((Wc 5) v17.toNatClampNeg) 1 hF
  · have hF := zif hF c226
    refine z_goto (tgt := 1947) (zC_pad Nc C) dL_law_366 (by decide) ?_
    refine z_iinc (v := (v10 + 1)) (lv' := [(10, .int (v10 + 1)), (0, .ref b), (1, .ref ab), (2, .ref (aw 0)), (3, .ref (aw 1)), (4, .ref (aw 2)), (5, .ref (aw 3)), (6, .ref (aw 4)), (7, .ref (aw 5)), (8, .ref (aw 6)), (9, .ref (aw 7)), (11, .int v11), (17, .int v17), (18, .int v18), (19, .int v19), (20, .int v20), (21, .int v21)]) (zC_pad Nc C) dL_law_1947 10 rfl rfl (by decide) rfl ?_
    refine z_goto (tgt := 100) (zC_pad Nc C) dL_law_1950 (by decide) ?_
    refine z_iwiden (k := cl + 6) (n := sl + 36) (by omega) (by omega) ?_
    exact z_sub (zC_pad Nc C) [1, 2, 3, 4, 5, 6, 7, 8, 9, 10, 0] rfl (hk100 Bc Pc Mc Tc Kc Uc Lc Wc Oc Nc (v10 + 1) hF)
set_option maxHeartbeats 4000000 in
set_option maxRecDepth 100000 in
theorem c_L_law_j315 (l : Launch) (hl : l.stackTraces = false) (D : va_G) (cI cJ cZ : ClassId) (ab : Nat) (a5 a3 a6 a1 a0 aw : Nat → Nat) (u : Nat) {p : Program} {e : Env} {s : State} {m : MethodId} {below : List Frame} {meth : Method} {c : Code} {b sL : Nat} {xs : Nat → Int32} (C : zC p s m #[.ref b] meth c cL_law 22 ret RL wsL_law D (zTy cI cJ cZ) (zAq s) s.heap) (XE : zE (zAq s) s s.heap) (XN : zN s) (hX : va_X b sL xs s s.heap) (hbl : b < s.heap.size) (cl sl : Nat) (hc : cl + 6 ≤ 8000) (hs : sl + 36 ≤ 60000) (k100 : SS → SS → SS → SS → SS → SS → SL → SS → SL → Nat → Int32 → Option Nat) (hk100 : ∀ (Bc : SS) (Pc : SS) (Mc : SS) (Tc : SS) (Kc : SS) (Uc : SS) (Lc : SL) (Wc : SS) (Oc : SL) (Nc : Nat) (v10 : Int32), k100 Bc Pc Mc Tc Kc Uc Lc Wc Oc Nc v10 = some u → zW p l e room_R s m #[.ref b] below meth c 22 D (zAq s) (zpad s.heap Nc) (cl + 6) (sl + 36) (lw_Z2 below s u) (zwX7 cI cJ cZ ab a5 a3 a6 a1 a0 Bc Pc Mc Tc Kc Uc Lc ++ zwW cI cJ cZ aw Wc Oc) [(0, .ref b), (1, .ref ab), (2, .ref (aw 0)), (3, .ref (aw 1)), (4, .ref (aw 2)), (5, .ref (aw 3)), (6, .ref (aw 4)), (7, .ref (aw 5)), (8, .ref (aw 6)), (9, .ref (aw 7)), (10, .int v10)] 100 []) : ∀ (n : Nat) (Bc : SS) (Pc : SS) (Mc : SS) (Tc : SS) (Kc : SS) (Uc : SS) (Lc : SL) (Wc : SS) (Oc : SL) (Nc : Nat) (v10 : Int32) (v11 : Int32) (v17 : Int32) (v18 : Int32) (v19 : Int32) (v20 : Int32) (v21 : Int32), f_L_law_315 xs sL k100 n Bc Pc Mc Tc Kc Uc Lc Wc Oc Nc v10 v11 v17 v18 v19 v20 v21 = some u → zW p l e room_R s m #[.ref b] below meth c 22 D (zAq s) (zpad s.heap Nc) (cl + 2) (sl + 12) (lw_Z2 below s u) (zwX7 cI cJ cZ ab a5 a3 a6 a1 a0 Bc Pc Mc Tc Kc Uc Lc ++ zwW cI cJ cZ aw Wc Oc) [(0, .ref b), (1, .ref ab), (2, .ref (aw 0)), (3, .ref (aw 1)), (4, .ref (aw 2)), (5, .ref (aw 3)), (6, .ref (aw 4)), (7, .ref (aw 5)), (8, .ref (aw 6)), (9, .ref (aw 7)), (10, .int v10), (11, .int v11), (17, .int v17), (18, .int v18), (19, .int v19), (20, .int v20), (21, .int v21)] 315 [] := by
  intro n
  induction n with
  | zero => intro Bc Pc Mc Tc Kc Uc Lc Wc Oc Nc v10 v11 v17 v18 v19 v20 v21 hF; exact absurd (show none = some u from hF) (fun q => nomatch q)
  | succ n ih =>
    intro Bc Pc Mc Tc Kc Uc Lc Wc Oc Nc v10 v11 v17 v18 v19 v20 v21 hF
    have hf0 : cl + 0 ≤ room_R.cells ∧ sl + 0 ≤ room_R.slots := ⟨by show _ ≤ 8000; omega, by show _ ≤ 60000; omega⟩
    have hf1 : cl + 1 ≤ room_R.cells ∧ sl + 6 ≤ room_R.slots := ⟨by show _ ≤ 8000; omega, by show _ ≤ 60000; omega⟩
    have hf2 : cl + 2 ≤ room_R.cells ∧ sl + 12 ≤ room_R.slots := ⟨by show _ ≤ 8000; omega, by show _ ≤ 60000; omega⟩
    have hf3 : cl + 3 ≤ room_R.cells ∧ sl + 18 ≤ room_R.slots := ⟨by show _ ≤ 8000; omega, by show _ ≤ 60000; omega⟩
    have hf4 : cl + 4 ≤ room_R.cells ∧ sl + 24 ≤ room_R.slots := ⟨by show _ ≤ 8000; omega, by show _ ≤ 60000; omega⟩
    have hf5 : cl + 5 ≤ room_R.cells ∧ sl + 30 ≤ room_R.slots := ⟨by show _ ≤ 8000; omega, by show _ ≤ 60000; omega⟩
    have hf6 : cl + 6 ≤ room_R.cells ∧ sl + 36 ≤ room_R.slots := ⟨by show _ ≤ 8000; omega, by show _ ≤ 60000; omega⟩
    have hbA : ¬ zAq s b := Nat.not_le.mpr hbl
    refine z_iload (zC_pad Nc C) dL_law_315 16 rfl ?_
    refine z_bipush (v := 6) (zC_pad Nc C) dL_law_317 (by decide) ?_
    refine z_iload (zC_pad Nc C) dL_law_319 12 rfl ?_
    refine z_imul (zC_pad Nc C) dL_law_321 ?_
    refine z_aload (zC_pad Nc C) dL_law_322 7 rfl ?_
    refine z_iload (zC_pad Nc C) dL_law_324 12 rfl ?_
    obtain ⟨g224, hF⟩ := zix_some hF
    refine z_iald (v := ((Wc 5) v17.toNatClampNeg)) (zC_pad Nc C) g224 35 rfl rfl rfl dL_law_326 ?_
    refine z_iadd (zC_pad Nc C) dL_law_327 ?_
    refine z_icmp_ge (tgt := 353) (zC_pad Nc C) dL_law_328 (by decide) (fun c225 => ?_) (fun c225 => ?_)
    · have hF := zif hF c225
      exact c_L_law_j353 l hl D cI cJ cZ ab a5 a3 a6 a1 a0 aw u C XE XN hX hbl cl sl (by omega) (by omega) k100 hk100 Bc Pc Mc Tc Kc Uc Lc Wc Oc Nc v10 v11 v17 v18 v19 v20 v21 hF
    · have hF := zelse hF c225
      refine z_aload (zC_pad Nc C) dL_law_331 5 rfl ?_
      refine z_iload (zC_pad Nc C) dL_law_333 16 rfl ?_
      obtain ⟨g237, hF⟩ := zix_some hF
      refine z_iald (v := ((Wc 3) v21.toNatClampNeg)) (zC_pad Nc C) g237 33 rfl rfl rfl dL_law_335 ?_
      refine z_bipush (v := 10) (zC_pad Nc C) dL_law_336 (by decide) ?_
      refine z_iload (zC_pad Nc C) dL_law_338 13 rfl ?_
      refine z_imul (zC_pad Nc C) dL_law_340 ?_
      refine z_iload (zC_pad Nc C) dL_law_341 14 rfl ?_
      refine z_iadd (zC_pad Nc C) dL_law_343 ?_
      refine z_icmp_eq (tgt := 353) (zC_pad Nc C) dL_law_344 (by decide) (fun c238 => ?_) (fun c238 => ?_)
      · have hF := zif hF c238
        exact c_L_law_j353 l hl D cI cJ cZ ab a5 a3 a6 a1 a0 aw u C XE XN hX hbl cl sl (by omega) (by omega) k100 hk100 Bc Pc Mc Tc Kc Uc Lc Wc Oc Nc v10 v11 v17 v18 v19 v20 v21 hF
      · have hF := zelse hF c238
        refine z_iinc (v := (v21 + 1)) (lv' := [(21, .int (v21 + 1)), (0, .ref b), (1, .ref ab), (2, .ref (aw 0)), (3, .ref (aw 1)), (4, .ref (aw 2)), (5, .ref (aw 3)), (6, .ref (aw 4)), (7, .ref (aw 5)), (8, .ref (aw 6)), (9, .ref (aw 7)), (10, .int v10), (11, .int v11), (17, .int v17), (18, .int v18), (19, .int v19), (20, .int v20)]) (zC_pad Nc C) dL_law_347 16 rfl rfl (by decide) rfl ?_
        refine z_goto (tgt := 315) (zC_pad Nc C) dL_law_350 (by decide) ?_
        exact z_sub (zC_pad Nc C) [1, 2, 3, 4, 5, 6, 7, 8, 9, 10, 11, 12, 13, 14, 15, 16, 0] rfl (ih Bc Pc Mc Tc Kc Uc Lc Wc Oc Nc v10 v11 v17 v18 v19 v20 (v21 + 1) hF)
set_option maxHeartbeats 4000000 in
set_option maxRecDepth 100000 in
theorem c_L_law_j254 (l : Launch) (hl : l.stackTraces = false) (D : va_G) (cI cJ cZ : ClassId) (ab : Nat) (a5 a3 a6 a1 a0 aw : Nat → Nat) (u : Nat) {p : Program} {e : Env} {s : State} {m : MethodId} {below : List Frame} {meth : Method} {c : Code} {b sL : Nat} {xs : Nat → Int32} (C : zC p s m #[.ref b] meth c cL_law 22 ret RL wsL_law D (zTy cI cJ cZ) (zAq s) s.heap) (XE : zE (zAq s) s s.heap) (XN : zN s) (hX : va_X b sL xs s s.heap) (hbl : b < s.heap.size) (cl sl : Nat) (hc : cl + 6 ≤ 8000) (hs : sl + 36 ≤ 60000) (k100 : SS → SS → SS → SS → SS → SS → SL → SS → SL → Nat → Int32 → Option Nat) (hk100 : ∀ (Bc : SS) (Pc : SS) (Mc : SS) (Tc : SS) (Kc : SS) (Uc : SS) (Lc : SL) (Wc : SS) (Oc : SL) (Nc : Nat) (v10 : Int32), k100 Bc Pc Mc Tc Kc Uc Lc Wc Oc Nc v10 = some u → zW p l e room_R s m #[.ref b] below meth c 22 D (zAq s) (zpad s.heap Nc) (cl + 6) (sl + 36) (lw_Z2 below s u) (zwX7 cI cJ cZ ab a5 a3 a6 a1 a0 Bc Pc Mc Tc Kc Uc Lc ++ zwW cI cJ cZ aw Wc Oc) [(0, .ref b), (1, .ref ab), (2, .ref (aw 0)), (3, .ref (aw 1)), (4, .ref (aw 2)), (5, .ref (aw 3)), (6, .ref (aw 4)), (7, .ref (aw 5)), (8, .ref (aw 6)), (9, .ref (aw 7)), (10, .int v10)] 100 []) (Bc : SS) (Pc : SS) (Mc : SS) (Tc : SS) (Kc : SS) (Uc : SS) (Lc : SL) (Wc : SS) (Oc : SL) (Nc : Nat) (v10 : Int32) (v11 : Int32) (v12 : Int32) (v17 : Int32) (s0 : Int32) (hF : f_L_law_254 xs sL k100 Bc Pc Mc Tc Kc Uc Lc Wc Oc Nc v10 v11 v12 v17 s0 = some u) : zW p l e room_R s m #[.ref b] below meth c 22 D (zAq s) (zpad s.heap Nc) (cl + 2) (sl + 12) (lw_Z2 below s u) (zwX7 cI cJ cZ ab a5 a3 a6 a1 a0 Bc Pc Mc Tc Kc Uc Lc ++ zwW cI cJ cZ aw Wc Oc) [(0, .ref b), (1, .ref ab), (2, .ref (aw 0)), (3, .ref (aw 1)), (4, .ref (aw 2)), (5, .ref (aw 3)), (6, .ref (aw 4)), (7, .ref (aw 5)), (8, .ref (aw 6)), (9, .ref (aw 7)), (10, .int v10), (11, .int v11), (12, .int v12), (17, .int v17)] 254 [.int s0] := by
  unfold f_L_law_254 at hF
  have hf0 : cl + 0 ≤ room_R.cells ∧ sl + 0 ≤ room_R.slots := ⟨by show _ ≤ 8000; omega, by show _ ≤ 60000; omega⟩
  have hf1 : cl + 1 ≤ room_R.cells ∧ sl + 6 ≤ room_R.slots := ⟨by show _ ≤ 8000; omega, by show _ ≤ 60000; omega⟩
  have hf2 : cl + 2 ≤ room_R.cells ∧ sl + 12 ≤ room_R.slots := ⟨by show _ ≤ 8000; omega, by show _ ≤ 60000; omega⟩
  have hf3 : cl + 3 ≤ room_R.cells ∧ sl + 18 ≤ room_R.slots := ⟨by show _ ≤ 8000; omega, by show _ ≤ 60000; omega⟩
  have hf4 : cl + 4 ≤ room_R.cells ∧ sl + 24 ≤ room_R.slots := ⟨by show _ ≤ 8000; omega, by show _ ≤ 60000; omega⟩
  have hf5 : cl + 5 ≤ room_R.cells ∧ sl + 30 ≤ room_R.slots := ⟨by show _ ≤ 8000; omega, by show _ ≤ 60000; omega⟩
  have hf6 : cl + 6 ≤ room_R.cells ∧ sl + 36 ≤ room_R.slots := ⟨by show _ ≤ 8000; omega, by show _ ≤ 60000; omega⟩
  have hbA : ¬ zAq s b := Nat.not_le.mpr hbl
  refine z_istore (lv' := [(18, .int s0), (0, .ref b), (1, .ref ab), (2, .ref (aw 0)), (3, .ref (aw 1)), (4, .ref (aw 2)), (5, .ref (aw 3)), (6, .ref (aw 4)), (7, .ref (aw 5)), (8, .ref (aw 6)), (9, .ref (aw 7)), (10, .int v10), (11, .int v11), (12, .int v12), (17, .int v17)]) (zC_pad Nc C) dL_law_254 (by decide) rfl ?_
  refine z_iload (zC_pad Nc C) dL_law_256 13 rfl ?_
  refine z_iconst (v := 4) (zC_pad Nc C) dL_law_258 (by decide) ?_
  refine z_ishr (zC_pad Nc C) dL_law_259 ?_
  refine z_iconst (v := 2) (zC_pad Nc C) dL_law_260 (by decide) ?_
  obtain ⟨r220, er220, hF⟩ := zbd hF
  refine z_callS (n := 2) (As := [.int (v12 >>> (4 &&& 31)), .int 2]) (zC_pad Nc C) (c_L_low l D cI cJ cZ (v12 >>> (4 &&& 31)) 2 r220 er220) gL_law_L_low rfl rfl rfl (by decide +kernel) ⟨Nat.le_of_ble_eq_true rfl, Nat.le_of_ble_eq_true rfl⟩ hf2 rfl rfl (Nat.le_of_ble_eq_true rfl) dL_law_261 ?_
  refine z_istore (lv' := [(19, .int r220), (18, .int s0), (0, .ref b), (1, .ref ab), (2, .ref (aw 0)), (3, .ref (aw 1)), (4, .ref (aw 2)), (5, .ref (aw 3)), (6, .ref (aw 4)), (7, .ref (aw 5)), (8, .ref (aw 6)), (9, .ref (aw 7)), (10, .int v10), (11, .int v11), (12, .int v12), (17, .int v17)]) (zC_pad Nc C) dL_law_264 (by decide) rfl ?_
  refine z_iload (zC_pad Nc C) dL_law_266 14 rfl ?_
  refine z_bipush (v := 6) (zC_pad Nc C) dL_law_268 (by decide) ?_
  refine z_ishr (zC_pad Nc C) dL_law_270 ?_
  refine z_iconst (v := 5) (zC_pad Nc C) dL_law_271 (by decide) ?_
  obtain ⟨r221, er221, hF⟩ := zbd hF
  refine z_callS (n := 2) (As := [.int (v12 >>> (6 &&& 31)), .int 5]) (zC_pad Nc C) (c_L_low l D cI cJ cZ (v12 >>> (6 &&& 31)) 5 r221 er221) gL_law_L_low rfl rfl rfl (by decide +kernel) ⟨Nat.le_of_ble_eq_true rfl, Nat.le_of_ble_eq_true rfl⟩ hf2 rfl rfl (Nat.le_of_ble_eq_true rfl) dL_law_272 ?_
  refine z_if_ne (tgt := 294) (zC_pad Nc C) dL_law_275 (by decide) (fun c222 => ?_) (fun c222 => ?_)
  · have hF := zelse hF c222
    refine z_iconst (v := 1) (zC_pad Nc C) dL_law_294 (by decide) ?_
    refine z_iload (zC_pad Nc C) dL_law_295 14 rfl ?_
    refine z_bipush (v := 9) (zC_pad Nc C) dL_law_297 (by decide) ?_
    refine z_ishr (zC_pad Nc C) dL_law_299 ?_
    refine z_bipush (v := 7) (zC_pad Nc C) dL_law_300 (by decide) ?_
    obtain ⟨r223, er223, hF⟩ := zbd hF
    refine z_callS (n := 2) (As := [.int (v12 >>> (9 &&& 31)), .int 7]) (zC_pad Nc C) (c_L_low l D cI cJ cZ (v12 >>> (9 &&& 31)) 7 r223 er223) gL_law_L_low rfl rfl rfl (by decide +kernel) ⟨Nat.le_of_ble_eq_true rfl, Nat.le_of_ble_eq_true rfl⟩ hf2 rfl rfl (Nat.le_of_ble_eq_true rfl) dL_law_302 ?_
    refine z_iadd (zC_pad Nc C) dL_law_305 ?_
    refine z_istore (lv' := [(20, .int (1 + r223)), (19, .int r220), (18, .int s0), (0, .ref b), (1, .ref ab), (2, .ref (aw 0)), (3, .ref (aw 1)), (4, .ref (aw 2)), (5, .ref (aw 3)), (6, .ref (aw 4)), (7, .ref (aw 5)), (8, .ref (aw 6)), (9, .ref (aw 7)), (10, .int v10), (11, .int v11), (12, .int v12), (17, .int v17)]) (zC_pad Nc C) dL_law_306 (by decide) rfl ?_
    refine z_bipush (v := 6) (zC_pad Nc C) dL_law_308 (by decide) ?_
    refine z_iload (zC_pad Nc C) dL_law_310 16 rfl ?_
    refine z_imul (zC_pad Nc C) dL_law_312 ?_
    refine z_istore (lv' := [(21, .int (6 * v17)), (20, .int (1 + r223)), (19, .int r220), (18, .int s0), (0, .ref b), (1, .ref ab), (2, .ref (aw 0)), (3, .ref (aw 1)), (4, .ref (aw 2)), (5, .ref (aw 3)), (6, .ref (aw 4)), (7, .ref (aw 5)), (8, .ref (aw 6)), (9, .ref (aw 7)), (10, .int v10), (11, .int v11), (12, .int v12), (17, .int v17)]) (zC_pad Nc C) dL_law_313 (by decide) rfl ?_
    exact z_sub (zC_pad Nc C) [4, 5, 6, 7, 8, 9, 10, 11, 12, 13, 14, 15, 17, 3, 2, 1, 0] rfl (c_L_law_j315 l hl D cI cJ cZ ab a5 a3 a6 a1 a0 aw u C XE XN hX hbl cl sl (by omega) (by omega) k100 hk100 600 Bc Pc Mc Tc Kc Uc Lc Wc Oc Nc v10 v11 v17 s0 r220 (1 + r223) (6 * v17) hF)
  · have hF := zif hF c222
    refine z_bipush (v := 8) (zC_pad Nc C) dL_law_278 (by decide) ?_
    refine z_iload (zC_pad Nc C) dL_law_280 14 rfl ?_
    refine z_bipush (v := 9) (zC_pad Nc C) dL_law_282 (by decide) ?_
    refine z_ishr (zC_pad Nc C) dL_law_284 ?_
    refine z_bipush (v := 8) (zC_pad Nc C) dL_law_285 (by decide) ?_
    obtain ⟨r239, er239, hF⟩ := zbd hF
    refine z_callS (n := 2) (As := [.int (v12 >>> (9 &&& 31)), .int 8]) (zC_pad Nc C) (c_L_low l D cI cJ cZ (v12 >>> (9 &&& 31)) 8 r239 er239) gL_law_L_low rfl rfl rfl (by decide +kernel) ⟨Nat.le_of_ble_eq_true rfl, Nat.le_of_ble_eq_true rfl⟩ hf2 rfl rfl (Nat.le_of_ble_eq_true rfl) dL_law_287 ?_
    refine z_iadd (zC_pad Nc C) dL_law_290 ?_
    refine z_goto (tgt := 306) (zC_pad Nc C) dL_law_291 (by decide) ?_
    refine z_istore (lv' := [(20, .int (8 + r239)), (19, .int r220), (18, .int s0), (0, .ref b), (1, .ref ab), (2, .ref (aw 0)), (3, .ref (aw 1)), (4, .ref (aw 2)), (5, .ref (aw 3)), (6, .ref (aw 4)), (7, .ref (aw 5)), (8, .ref (aw 6)), (9, .ref (aw 7)), (10, .int v10), (11, .int v11), (12, .int v12), (17, .int v17)]) (zC_pad Nc C) dL_law_306 (by decide) rfl ?_
    refine z_bipush (v := 6) (zC_pad Nc C) dL_law_308 (by decide) ?_
    refine z_iload (zC_pad Nc C) dL_law_310 16 rfl ?_
    refine z_imul (zC_pad Nc C) dL_law_312 ?_
    refine z_istore (lv' := [(21, .int (6 * v17)), (20, .int (8 + r239)), (19, .int r220), (18, .int s0), (0, .ref b), (1, .ref ab), (2, .ref (aw 0)), (3, .ref (aw 1)), (4, .ref (aw 2)), (5, .ref (aw 3)), (6, .ref (aw 4)), (7, .ref (aw 5)), (8, .ref (aw 6)), (9, .ref (aw 7)), (10, .int v10), (11, .int v11), (12, .int v12), (17, .int v17)]) (zC_pad Nc C) dL_law_313 (by decide) rfl ?_
    exact z_sub (zC_pad Nc C) [4, 5, 6, 7, 8, 9, 10, 11, 12, 13, 14, 15, 17, 3, 2, 1, 0] rfl (c_L_law_j315 l hl D cI cJ cZ ab a5 a3 a6 a1 a0 aw u C XE XN hX hbl cl sl (by omega) (by omega) k100 hk100 600 Bc Pc Mc Tc Kc Uc Lc Wc Oc Nc v10 v11 v17 s0 r220 (8 + r239) (6 * v17) hF)
set_option maxHeartbeats 4000000 in
set_option maxRecDepth 100000 in
theorem c_L_law_j167 (l : Launch) (hl : l.stackTraces = false) (D : va_G) (cI cJ cZ : ClassId) (ab : Nat) (a5 a3 a6 a1 a0 aw : Nat → Nat) (u : Nat) {p : Program} {e : Env} {s : State} {m : MethodId} {below : List Frame} {meth : Method} {c : Code} {b sL : Nat} {xs : Nat → Int32} (C : zC p s m #[.ref b] meth c cL_law 22 ret RL wsL_law D (zTy cI cJ cZ) (zAq s) s.heap) (XE : zE (zAq s) s s.heap) (XN : zN s) (hX : va_X b sL xs s s.heap) (hbl : b < s.heap.size) (cl sl : Nat) (hc : cl + 6 ≤ 8000) (hs : sl + 36 ≤ 60000) (k100 : SS → SS → SS → SS → SS → SS → SL → SS → SL → Nat → Int32 → Option Nat) (hk100 : ∀ (Bc : SS) (Pc : SS) (Mc : SS) (Tc : SS) (Kc : SS) (Uc : SS) (Lc : SL) (Wc : SS) (Oc : SL) (Nc : Nat) (v10 : Int32), k100 Bc Pc Mc Tc Kc Uc Lc Wc Oc Nc v10 = some u → zW p l e room_R s m #[.ref b] below meth c 22 D (zAq s) (zpad s.heap Nc) (cl + 6) (sl + 36) (lw_Z2 below s u) (zwX7 cI cJ cZ ab a5 a3 a6 a1 a0 Bc Pc Mc Tc Kc Uc Lc ++ zwW cI cJ cZ aw Wc Oc) [(0, .ref b), (1, .ref ab), (2, .ref (aw 0)), (3, .ref (aw 1)), (4, .ref (aw 2)), (5, .ref (aw 3)), (6, .ref (aw 4)), (7, .ref (aw 5)), (8, .ref (aw 6)), (9, .ref (aw 7)), (10, .int v10)] 100 []) (Bc : SS) (Pc : SS) (Mc : SS) (Tc : SS) (Kc : SS) (Uc : SS) (Lc : SL) (Wc : SS) (Oc : SL) (Nc : Nat) (v10 : Int32) (v11 : Int32) (v12 : Int32) (s0 : Int32) (hF : f_L_law_167 xs sL k100 Bc Pc Mc Tc Kc Uc Lc Wc Oc Nc v10 v11 v12 s0 = some u) : zW p l e room_R s m #[.ref b] below meth c 22 D (zAq s) (zpad s.heap Nc) (cl + 2) (sl + 12) (lw_Z2 below s u) (zwX7 cI cJ cZ ab a5 a3 a6 a1 a0 Bc Pc Mc Tc Kc Uc Lc ++ zwW cI cJ cZ aw Wc Oc) [(0, .ref b), (1, .ref ab), (2, .ref (aw 0)), (3, .ref (aw 1)), (4, .ref (aw 2)), (5, .ref (aw 3)), (6, .ref (aw 4)), (7, .ref (aw 5)), (8, .ref (aw 6)), (9, .ref (aw 7)), (10, .int v10), (11, .int v11), (12, .int v12)] 167 [.int s0] := by
  unfold f_L_law_167 at hF
  have hf0 : cl + 0 ≤ room_R.cells ∧ sl + 0 ≤ room_R.slots := ⟨by show _ ≤ 8000; omega, by show _ ≤ 60000; omega⟩
  have hf1 : cl + 1 ≤ room_R.cells ∧ sl + 6 ≤ room_R.slots := ⟨by show _ ≤ 8000; omega, by show _ ≤ 60000; omega⟩
  have hf2 : cl + 2 ≤ room_R.cells ∧ sl + 12 ≤ room_R.slots := ⟨by show _ ≤ 8000; omega, by show _ ≤ 60000; omega⟩
  have hf3 : cl + 3 ≤ room_R.cells ∧ sl + 18 ≤ room_R.slots := ⟨by show _ ≤ 8000; omega, by show _ ≤ 60000; omega⟩
  have hf4 : cl + 4 ≤ room_R.cells ∧ sl + 24 ≤ room_R.slots := ⟨by show _ ≤ 8000; omega, by show _ ≤ 60000; omega⟩
  have hf5 : cl + 5 ≤ room_R.cells ∧ sl + 30 ≤ room_R.slots := ⟨by show _ ≤ 8000; omega, by show _ ≤ 60000; omega⟩
  have hf6 : cl + 6 ≤ room_R.cells ∧ sl + 36 ≤ room_R.slots := ⟨by show _ ≤ 8000; omega, by show _ ≤ 60000; omega⟩
  have hbA : ¬ zAq s b := Nat.not_le.mpr hbl
  refine z_istore (lv' := [(13, .int s0), (0, .ref b), (1, .ref ab), (2, .ref (aw 0)), (3, .ref (aw 1)), (4, .ref (aw 2)), (5, .ref (aw 3)), (6, .ref (aw 4)), (7, .ref (aw 5)), (8, .ref (aw 6)), (9, .ref (aw 7)), (10, .int v10), (11, .int v11), (12, .int v12)]) (zC_pad Nc C) dL_law_167 (by decide) rfl ?_
  refine z_iload (zC_pad Nc C) dL_law_169 13 rfl ?_
  refine z_aload_n (zC_pad Nc C) dL_law_171 rfl 3 rfl ?_
  refine z_iconst (v := 3) (zC_pad Nc C) dL_law_172 (by decide) ?_
  obtain ⟨g13, hF⟩ := zix_some hF
  refine z_iald (v := ((Wc 0) (3 : Int32).toNatClampNeg)) (zC_pad Nc C) g13 30 rfl rfl rfl dL_law_173 ?_
  obtain ⟨r14, er14, hF⟩ := zbd hF
  refine z_callS (n := 2) (As := [.int v12, .int ((Wc 0) (3 : Int32).toNatClampNeg)]) (zC_pad Nc C) (c_L_low l D cI cJ cZ v12 ((Wc 0) (3 : Int32).toNatClampNeg) r14 er14) gL_law_L_low rfl rfl rfl (by decide +kernel) ⟨Nat.le_of_ble_eq_true rfl, Nat.le_of_ble_eq_true rfl⟩ hf2 rfl rfl (Nat.le_of_ble_eq_true rfl) dL_law_174 ?_
  refine z_istore (lv' := [(14, .int r14), (13, .int s0), (0, .ref b), (1, .ref ab), (2, .ref (aw 0)), (3, .ref (aw 1)), (4, .ref (aw 2)), (5, .ref (aw 3)), (6, .ref (aw 4)), (7, .ref (aw 5)), (8, .ref (aw 6)), (9, .ref (aw 7)), (10, .int v10), (11, .int v11), (12, .int v12)]) (zC_pad Nc C) dL_law_177 (by decide) rfl ?_
  refine z_iload (zC_pad Nc C) dL_law_179 0 rfl ?_
  refine z_aload_n (zC_pad Nc C) dL_law_181 rfl 4 rfl ?_
  refine z_aload_n (zC_pad Nc C) dL_law_182 rfl 5 rfl ?_
  obtain ⟨r15, er15, hF⟩ := zbd hF
  refine z_callSW (n := 3) (As := [.int r14, .ref (aw 0), .ref (aw 1)]) (ws' := (zwX7 cI cJ cZ ab a5 a3 a6 a1 a0 Bc Pc Mc Tc Kc Uc Lc ++ zwW cI cJ cZ aw Wc Oc)) (zC_pad Nc C) (c_L_lives l D cI cJ cZ aw Wc Oc r14 r15 er15) gL_law_L_lives rfl rfl rfl (by decide +kernel) ⟨Nat.le_of_ble_eq_true rfl, Nat.le_of_ble_eq_true rfl⟩ hf2 (zwX7 cI cJ cZ ab a5 a3 a6 a1 a0 Bc Pc Mc Tc Kc Uc Lc) [] zAs5 zAs6 rfl rfl (Nat.le_of_ble_eq_true rfl) dL_law_183 ?_
  refine z_istore (lv' := [(15, .int r15), (14, .int r14), (13, .int s0), (0, .ref b), (1, .ref ab), (2, .ref (aw 0)), (3, .ref (aw 1)), (4, .ref (aw 2)), (5, .ref (aw 3)), (6, .ref (aw 4)), (7, .ref (aw 5)), (8, .ref (aw 6)), (9, .ref (aw 7)), (10, .int v10), (11, .int v11), (12, .int v12)]) (zC_pad Nc C) dL_law_186 (by decide) rfl ?_
  refine z_aload_n (zC_pad Nc C) dL_law_188 rfl 5 rfl ?_
  refine z_aload_n (zC_pad Nc C) dL_law_189 rfl 6 rfl ?_
  obtain ⟨r16, er16, hF⟩ := zbd hF
  refine z_callSW (n := 2) (As := [.ref (aw 0), .ref (aw 1)]) (ws' := (zwX7 cI cJ cZ ab a5 a3 a6 a1 a0 Bc Pc Mc Tc Kc Uc Lc ++ zwW cI cJ cZ aw Wc Oc)) (zC_pad Nc C) (c_L_living l D cI cJ cZ aw Wc Oc r16 er16) gL_law_L_living rfl rfl rfl (by decide +kernel) ⟨Nat.le_of_ble_eq_true rfl, Nat.le_of_ble_eq_true rfl⟩ hf2 (zwX7 cI cJ cZ ab a5 a3 a6 a1 a0 Bc Pc Mc Tc Kc Uc Lc) [] zAs5 zAs6 rfl rfl (Nat.le_of_ble_eq_true rfl) dL_law_190 ?_
  refine z_aload_n (zC_pad Nc C) dL_law_193 rfl 5 rfl ?_
  refine z_aload_n (zC_pad Nc C) dL_law_194 rfl 6 rfl ?_
  refine z_aload (zC_pad Nc C) dL_law_195 7 rfl ?_
  obtain ⟨r17, er17, hF⟩ := zbd hF
  refine z_callSW (n := 3) (As := [.ref (aw 0), .ref (aw 1), .ref (aw 2)]) (ws' := (zwX7 cI cJ cZ ab a5 a3 a6 a1 a0 Bc Pc Mc Tc Kc Uc Lc ++ zwW cI cJ cZ aw Wc Oc)) (zC_pad Nc C) (c_L_working l D cI cJ cZ aw Wc Oc r17 er17) gL_law_L_working rfl rfl rfl (by decide +kernel) ⟨Nat.le_of_ble_eq_true rfl, Nat.le_of_ble_eq_true rfl⟩ hf2 (zwX7 cI cJ cZ ab a5 a3 a6 a1 a0 Bc Pc Mc Tc Kc Uc Lc) [] zAs5 zAs6 rfl rfl (Nat.le_of_ble_eq_true rfl) dL_law_197 ?_
  refine z_iadd (zC_pad Nc C) dL_law_200 ?_
  refine z_istore (lv' := [(16, .int (r16 + r17)), (15, .int r15), (14, .int r14), (13, .int s0), (0, .ref b), (1, .ref ab), (2, .ref (aw 0)), (3, .ref (aw 1)), (4, .ref (aw 2)), (5, .ref (aw 3)), (6, .ref (aw 4)), (7, .ref (aw 5)), (8, .ref (aw 6)), (9, .ref (aw 7)), (10, .int v10), (11, .int v11), (12, .int v12)]) (zC_pad Nc C) dL_law_201 (by decide) rfl ?_
  refine z_iload (zC_pad Nc C) dL_law_203 3 rfl ?_
  refine z_iconst (v := 3) (zC_pad Nc C) dL_law_205 (by decide) ?_
  refine z_icmp_ge (tgt := 452) (zC_pad Nc C) dL_law_206 (by decide) (fun c18 => ?_) (fun c18 => ?_)
  · have hF := zif hF c18
    refine z_iload (zC_pad Nc C) dL_law_452 3 rfl ?_
    refine z_iconst (v := 3) (zC_pad Nc C) dL_law_454 (by decide) ?_
    refine z_icmp_ne (tgt := 616) (zC_pad Nc C) dL_law_455 (by decide) (fun c19 => ?_) (fun c19 => ?_)
    · have hF := zelse hF c19
      refine z_iload (zC_pad Nc C) dL_law_616 3 rfl ?_
      refine z_bipush (v := 7) (zC_pad Nc C) dL_law_618 (by decide) ?_
      refine z_icmp_ge (tgt := 912) (zC_pad Nc C) dL_law_620 (by decide) (fun c20 => ?_) (fun c20 => ?_)
      · have hF := zif hF c20
        refine z_iload (zC_pad Nc C) dL_law_912 3 rfl ?_
        refine z_bipush (v := 7) (zC_pad Nc C) dL_law_914 (by decide) ?_
        refine z_icmp_ne (tgt := 1073) (zC_pad Nc C) dL_law_916 (by decide) (fun c21 => ?_) (fun c21 => ?_)
        · have hF := zelse hF c21
          refine z_iload (zC_pad Nc C) dL_law_1073 3 rfl ?_
          refine z_bipush (v := 10) (zC_pad Nc C) dL_law_1075 (by decide) ?_
          refine z_icmp_ge (tgt := 1263) (zC_pad Nc C) dL_law_1077 (by decide) (fun c22 => ?_) (fun c22 => ?_)
          · have hF := zif hF c22
            refine z_iload (zC_pad Nc C) dL_law_1263 3 rfl ?_
            refine z_bipush (v := 15) (zC_pad Nc C) dL_law_1265 (by decide) ?_
            refine z_icmp_ge (tgt := 1539) (zC_pad Nc C) dL_law_1267 (by decide) (fun c23 => ?_) (fun c23 => ?_)
            · have hF := zif hF c23
              refine z_iload (zC_pad Nc C) dL_law_1539 3 rfl ?_
              refine z_bipush (v := 15) (zC_pad Nc C) dL_law_1541 (by decide) ?_
              refine z_icmp_ne (tgt := 1736) (zC_pad Nc C) dL_law_1543 (by decide) (fun c24 => ?_) (fun c24 => ?_)
              · have hF := zelse hF c24
                refine z_iload (zC_pad Nc C) dL_law_1736 3 rfl ?_
                refine z_bipush (v := 16) (zC_pad Nc C) dL_law_1738 (by decide) ?_
                refine z_icmp_ne (tgt := 1848) (zC_pad Nc C) dL_law_1740 (by decide) (fun c25 => ?_) (fun c25 => ?_)
                · have hF := zelse hF c25
                  refine z_iconst (v := 1) (zC_pad Nc C) dL_law_1848 (by decide) ?_
                  refine z_iload (zC_pad Nc C) dL_law_1849 16 rfl ?_
                  refine z_iconst (v := 4) (zC_pad Nc C) dL_law_1851 (by decide) ?_
                  refine z_ishr (zC_pad Nc C) dL_law_1852 ?_
                  refine z_iload (zC_pad Nc C) dL_law_1853 3 rfl ?_
                  refine z_bipush (v := 17) (zC_pad Nc C) dL_law_1855 (by decide) ?_
                  refine z_icmp_ne (tgt := 1865) (zC_pad Nc C) dL_law_1857 (by decide) (fun c26 => ?_) (fun c26 => ?_)
                  · have hF := zelse hF c26
                    refine z_iconst (v := 5) (zC_pad Nc C) dL_law_1865 (by decide) ?_
                    exact z_sub (zC_pad Nc C) [4, 5, 6, 7, 8, 9, 10, 11, 12, 13, 14, 15, 0] rfl (c_L_law_j1866 l hl D cI cJ cZ ab a5 a3 a6 a1 a0 aw u C XE XN hX hbl cl sl (by omega) (by omega) k100 hk100 Bc Pc Mc Tc Kc Uc Lc Wc Oc Nc v10 v11 (r16 + r17) 1 (v12 >>> (4 &&& 31)) 5 hF)
                  · have hF := zif hF c26
                    refine z_bipush (v := 30) (zC_pad Nc C) dL_law_1860 (by decide) ?_
                    refine z_goto (tgt := 1866) (zC_pad Nc C) dL_law_1862 (by decide) ?_
                    exact z_sub (zC_pad Nc C) [4, 5, 6, 7, 8, 9, 10, 11, 12, 13, 14, 15, 0] rfl (c_L_law_j1866 l hl D cI cJ cZ ab a5 a3 a6 a1 a0 aw u C XE XN hX hbl cl sl (by omega) (by omega) k100 hk100 Bc Pc Mc Tc Kc Uc Lc Wc Oc Nc v10 v11 (r16 + r17) 1 (v12 >>> (4 &&& 31)) 30 hF)
                · have hF := zif hF c25
                  refine z_iload (zC_pad Nc C) dL_law_1743 16 rfl ?_
                  refine z_iconst (v := 4) (zC_pad Nc C) dL_law_1745 (by decide) ?_
                  refine z_ishr (zC_pad Nc C) dL_law_1746 ?_
                  refine z_iconst (v := 2) (zC_pad Nc C) dL_law_1747 (by decide) ?_
                  obtain ⟨r39, er39, hF⟩ := zbd hF
                  refine z_callS (n := 2) (As := [.int (v12 >>> (4 &&& 31)), .int 2]) (zC_pad Nc C) (c_L_path l D cI cJ cZ (v12 >>> (4 &&& 31)) 2 r39 er39) gL_law_L_path rfl rfl rfl (by decide +kernel) ⟨Nat.le_of_ble_eq_true rfl, Nat.le_of_ble_eq_true rfl⟩ hf2 rfl rfl (Nat.le_of_ble_eq_true rfl) dL_law_1748 ?_
                  refine z_istore (lv' := [(17, .int r39), (16, .int (r16 + r17)), (15, .int r15), (14, .int r14), (13, .int s0), (0, .ref b), (1, .ref ab), (2, .ref (aw 0)), (3, .ref (aw 1)), (4, .ref (aw 2)), (5, .ref (aw 3)), (6, .ref (aw 4)), (7, .ref (aw 5)), (8, .ref (aw 6)), (9, .ref (aw 7)), (10, .int v10), (11, .int v11), (12, .int v12)]) (zC_pad Nc C) dL_law_1751 (by decide) rfl ?_
                  refine z_iconst (v := 0) (zC_pad Nc C) dL_law_1753 (by decide) ?_
                  refine z_istore (lv' := [(18, .int 0), (17, .int r39), (16, .int (r16 + r17)), (15, .int r15), (14, .int r14), (13, .int s0), (0, .ref b), (1, .ref ab), (2, .ref (aw 0)), (3, .ref (aw 1)), (4, .ref (aw 2)), (5, .ref (aw 3)), (6, .ref (aw 4)), (7, .ref (aw 5)), (8, .ref (aw 6)), (9, .ref (aw 7)), (10, .int v10), (11, .int v11), (12, .int v12)]) (zC_pad Nc C) dL_law_1754 (by decide) rfl ?_
                  refine z_iconst (v := 0) (zC_pad Nc C) dL_law_1756 (by decide) ?_
                  refine z_istore (lv' := [(19, .int 0), (18, .int 0), (17, .int r39), (16, .int (r16 + r17)), (15, .int r15), (14, .int r14), (13, .int s0), (0, .ref b), (1, .ref ab), (2, .ref (aw 0)), (3, .ref (aw 1)), (4, .ref (aw 2)), (5, .ref (aw 3)), (6, .ref (aw 4)), (7, .ref (aw 5)), (8, .ref (aw 6)), (9, .ref (aw 7)), (10, .int v10), (11, .int v11), (12, .int v12)]) (zC_pad Nc C) dL_law_1757 (by decide) rfl ?_
                  exact z_sub (zC_pad Nc C) [7, 8, 9, 10, 11, 12, 13, 14, 15, 16, 17, 18, 2, 1, 0] rfl (c_L_law_j1759 l hl D cI cJ cZ ab a5 a3 a6 a1 a0 aw u C XE XN hX hbl cl sl (by omega) (by omega) k100 hk100 600 Bc Pc Mc Tc Kc Uc Lc Wc Oc Nc v10 v11 r39 0 0 hF)
              · have hF := zif hF c24
                refine z_aload_n (zC_pad Nc C) dL_law_1546 rfl 6 rfl ?_
                refine z_iconst (v := 4) (zC_pad Nc C) dL_law_1547 (by decide) ?_
                obtain ⟨g52, hF⟩ := zix_some hF
                refine z_iald (v := ((Wc 0) (4 : Int32).toNatClampNeg)) (zC_pad Nc C) g52 30 rfl rfl rfl dL_law_1548 ?_
                refine z_if_ne (tgt := 1555) (zC_pad Nc C) dL_law_1549 (by decide) (fun c53 => ?_) (fun c53 => ?_)
                · have hF := zelse hF c53
                  refine z_iload (zC_pad Nc C) dL_law_1555 16 rfl ?_
                  refine z_iconst (v := 4) (zC_pad Nc C) dL_law_1557 (by decide) ?_
                  refine z_ishr (zC_pad Nc C) dL_law_1558 ?_
                  refine z_aload_n (zC_pad Nc C) dL_law_1559 rfl 6 rfl ?_
                  refine z_iconst (v := 4) (zC_pad Nc C) dL_law_1560 (by decide) ?_
                  obtain ⟨g54, hF⟩ := zix_some hF
                  refine z_iald (v := ((Wc 0) (4 : Int32).toNatClampNeg)) (zC_pad Nc C) g54 30 rfl rfl rfl dL_law_1561 ?_
                  obtain ⟨r55, er55, hF⟩ := zbd hF
                  refine z_callS (n := 2) (As := [.int (v12 >>> (4 &&& 31)), .int ((Wc 0) (4 : Int32).toNatClampNeg)]) (zC_pad Nc C) (c_L_low l D cI cJ cZ (v12 >>> (4 &&& 31)) ((Wc 0) (4 : Int32).toNatClampNeg) r55 er55) gL_law_L_low rfl rfl rfl (by decide +kernel) ⟨Nat.le_of_ble_eq_true rfl, Nat.le_of_ble_eq_true rfl⟩ hf2 rfl rfl (Nat.le_of_ble_eq_true rfl) dL_law_1562 ?_
                  refine z_istore (lv' := [(17, .int r55), (16, .int (r16 + r17)), (15, .int r15), (14, .int r14), (13, .int s0), (0, .ref b), (1, .ref ab), (2, .ref (aw 0)), (3, .ref (aw 1)), (4, .ref (aw 2)), (5, .ref (aw 3)), (6, .ref (aw 4)), (7, .ref (aw 5)), (8, .ref (aw 6)), (9, .ref (aw 7)), (10, .int v10), (11, .int v11), (12, .int v12)]) (zC_pad Nc C) dL_law_1565 (by decide) rfl ?_
                  refine z_iconst (v := 1) (zC_pad Nc C) dL_law_1567 (by decide) ?_
                  refine z_iload (zC_pad Nc C) dL_law_1568 17 rfl ?_
                  refine z_bipush (v := 9) (zC_pad Nc C) dL_law_1570 (by decide) ?_
                  refine z_ishr (zC_pad Nc C) dL_law_1572 ?_
                  refine z_bipush (v := 60) (zC_pad Nc C) dL_law_1573 (by decide) ?_
                  obtain ⟨r56, er56, hF⟩ := zbd hF
                  refine z_callS (n := 2) (As := [.int (v12 >>> (9 &&& 31)), .int 60]) (zC_pad Nc C) (c_L_low l D cI cJ cZ (v12 >>> (9 &&& 31)) 60 r56 er56) gL_law_L_low rfl rfl rfl (by decide +kernel) ⟨Nat.le_of_ble_eq_true rfl, Nat.le_of_ble_eq_true rfl⟩ hf2 rfl rfl (Nat.le_of_ble_eq_true rfl) dL_law_1575 ?_
                  refine z_iadd (zC_pad Nc C) dL_law_1578 ?_
                  refine z_istore (lv' := [(18, .int (1 + r56)), (17, .int r55), (16, .int (r16 + r17)), (15, .int r15), (14, .int r14), (13, .int s0), (0, .ref b), (1, .ref ab), (2, .ref (aw 0)), (3, .ref (aw 1)), (4, .ref (aw 2)), (5, .ref (aw 3)), (6, .ref (aw 4)), (7, .ref (aw 5)), (8, .ref (aw 6)), (9, .ref (aw 7)), (10, .int v10), (11, .int v11), (12, .int v12)]) (zC_pad Nc C) dL_law_1579 (by decide) rfl ?_
                  refine z_iload (zC_pad Nc C) dL_law_1581 1 rfl ?_
                  refine z_aload_n (zC_pad Nc C) dL_law_1583 rfl 8 rfl ?_
                  refine z_aload_n (zC_pad Nc C) dL_law_1584 rfl 9 rfl ?_
                  refine z_aload (zC_pad Nc C) dL_law_1585 10 rfl ?_
                  obtain ⟨r57, er57, hF⟩ := zbd hF
                  refine z_callSW (n := 4) (As := [.int r55, .ref (aw 0), .ref (aw 1), .ref (aw 2)]) (ws' := (zwX7 cI cJ cZ ab a5 a3 a6 a1 a0 Bc Pc Mc Tc Kc Uc Lc ++ zwW cI cJ cZ aw Wc Oc)) (zC_pad Nc C) (c_L_works l D cI cJ cZ aw Wc Oc r55 r57 er57) gL_law_L_works rfl rfl rfl (by decide +kernel) ⟨Nat.le_of_ble_eq_true rfl, Nat.le_of_ble_eq_true rfl⟩ hf2 (zwX7 cI cJ cZ ab a5 a3 a6 a1 a0 Bc Pc Mc Tc Kc Uc Lc) [] zAs5 zAs6 rfl rfl (Nat.le_of_ble_eq_true rfl) dL_law_1587 ?_
                  refine z_if_ne (tgt := 1609) (zC_pad Nc C) dL_law_1590 (by decide) (fun c58 => ?_) (fun c58 => ?_)
                  · have hF := zelse hF c58
                    refine z_aload_n (zC_pad Nc C) dL_law_1609 rfl 8 rfl ?_
                    refine z_iconst (v := 0) (zC_pad Nc C) dL_law_1610 (by decide) ?_
                    obtain ⟨g59, hF⟩ := zix_some hF
                    refine z_iald (v := ((Wc 0) (0 : Int32).toNatClampNeg)) (zC_pad Nc C) g59 30 rfl rfl rfl dL_law_1611 ?_
                    refine z_iload (zC_pad Nc C) dL_law_1612 0 rfl ?_
                    refine z_iadd (zC_pad Nc C) dL_law_1614 ?_
                    refine z_aload (zC_pad Nc C) dL_law_1615 10 rfl ?_
                    refine z_iconst (v := 5) (zC_pad Nc C) dL_law_1617 (by decide) ?_
                    refine z_iload (zC_pad Nc C) dL_law_1618 1 rfl ?_
                    refine z_imul (zC_pad Nc C) dL_law_1620 ?_
                    refine z_iconst (v := 3) (zC_pad Nc C) dL_law_1621 (by decide) ?_
                    refine z_iadd (zC_pad Nc C) dL_law_1622 ?_
                    obtain ⟨g60, hF⟩ := zix_some hF
                    refine z_iald (v := ((Wc 2) ((5 * r55) + 3).toNatClampNeg)) (zC_pad Nc C) g60 32 rfl rfl rfl dL_law_1623 ?_
                    refine z_icmp_ge (tgt := 1636) (zC_pad Nc C) dL_law_1624 (by decide) (fun c61 => ?_) (fun c61 => ?_)
                    · have hF := zif hF c61
                      refine z_aload (zC_pad Nc C) dL_law_1636 10 rfl ?_
                      refine z_iconst (v := 5) (zC_pad Nc C) dL_law_1638 (by decide) ?_
                      refine z_iload (zC_pad Nc C) dL_law_1639 1 rfl ?_
                      refine z_imul (zC_pad Nc C) dL_law_1641 ?_
                      refine z_iconst (v := 3) (zC_pad Nc C) dL_law_1642 (by decide) ?_
                      refine z_iadd (zC_pad Nc C) dL_law_1643 ?_
                      obtain ⟨g62, hF⟩ := zix_some hF
                      refine z_iald (v := ((Wc 2) ((5 * r55) + 3).toNatClampNeg)) (zC_pad Nc C) g62 32 rfl rfl rfl dL_law_1644 ?_
                      exact z_sub (zC_pad Nc C) [6, 7, 8, 9, 10, 11, 12, 13, 14, 15, 16, 17, 1, 0] rfl (c_L_law_j1645 l hl D cI cJ cZ ab a5 a3 a6 a1 a0 aw u C XE XN hX hbl cl sl (by omega) (by omega) k100 hk100 Bc Pc Mc Tc Kc Uc Lc Wc Oc Nc v10 v11 r55 (1 + r56) ((Wc 2) ((5 * r55) + 3).toNatClampNeg) hF)
                    · have hF := zelse hF c61
                      refine z_aload_n (zC_pad Nc C) dL_law_1627 rfl 8 rfl ?_
                      refine z_iconst (v := 0) (zC_pad Nc C) dL_law_1628 (by decide) ?_
                      obtain ⟨g74, hF⟩ := zix_some hF
                      refine z_iald (v := ((Wc 0) (0 : Int32).toNatClampNeg)) (zC_pad Nc C) g74 30 rfl rfl rfl dL_law_1629 ?_
                      refine z_iload (zC_pad Nc C) dL_law_1630 0 rfl ?_
                      refine z_iadd (zC_pad Nc C) dL_law_1632 ?_
                      refine z_goto (tgt := 1645) (zC_pad Nc C) dL_law_1633 (by decide) ?_
                      exact z_sub (zC_pad Nc C) [6, 7, 8, 9, 10, 11, 12, 13, 14, 15, 16, 17, 1, 0] rfl (c_L_law_j1645 l hl D cI cJ cZ ab a5 a3 a6 a1 a0 aw u C XE XN hX hbl cl sl (by omega) (by omega) k100 hk100 Bc Pc Mc Tc Kc Uc Lc Wc Oc Nc v10 v11 r55 (1 + r56) (((Wc 0) (0 : Int32).toNatClampNeg) + (1 + r56)) hF)
                  · have hF := zif hF c58
                    refine z_aload_n (zC_pad Nc C) dL_law_1593 rfl 7 rfl ?_
                    refine z_iconst (v := 4) (zC_pad Nc C) dL_law_1594 (by decide) ?_
                    refine z_iload (zC_pad Nc C) dL_law_1595 1 rfl ?_
                    refine z_iload (zC_pad Nc C) dL_law_1597 0 rfl ?_
                    refine z_iconst (v := 0) (zC_pad Nc C) dL_law_1599 (by decide) ?_
                    obtain ⟨r75, er75, hF⟩ := zbd hF
                    refine z_gcallH (N := Nc) (n := 5) (As := [.ref ab, .int 4, .int r55, .int (1 + r56), .int 0]) (ws' := (zwX7 cI cJ cZ ab a5 a3 a6 a1 a0 Bc Pc Mc r75.2.1 r75.2.2.1 r75.2.2.2.1 r75.2.2.2.2 ++ zwW cI cJ cZ aw Wc Oc)) C XE XN (c_L_refused l hl D cI cJ cZ ab a5 a3 a6 a1 a0 Bc Pc Mc Tc Kc Uc Lc 4 r55 (1 + r56) 0 r75 er75) gL_law_L_refused rfl (by decide +kernel) ⟨Nat.le_of_ble_eq_true rfl, Nat.le_of_ble_eq_true rfl⟩ hf3 [] (zwW cI cJ cZ aw Wc Oc) rfl rfl rfl rfl (Nat.le_of_ble_eq_true rfl) dL_law_1600 ?_
                    refine z_iconst (v := 2) (zC_pad (Nc + (if r75.1 = 0 then 0 else 1)) C) dL_law_1603 (by decide) ?_
                    refine z_icmp_eq (tgt := 1947) (zC_pad (Nc + (if r75.1 = 0 then 0 else 1)) C) dL_law_1604 (by decide) (fun c76 => ?_) (fun c76 => ?_)
                    · have hF := zif hF c76
                      refine z_iinc (v := (v10 + 1)) (lv' := [(10, .int (v10 + 1)), (18, .int (1 + r56)), (17, .int r55), (16, .int (r16 + r17)), (15, .int r15), (14, .int r14), (13, .int s0), (0, .ref b), (1, .ref ab), (2, .ref (aw 0)), (3, .ref (aw 1)), (4, .ref (aw 2)), (5, .ref (aw 3)), (6, .ref (aw 4)), (7, .ref (aw 5)), (8, .ref (aw 6)), (9, .ref (aw 7)), (11, .int v11), (12, .int v12)]) (zC_pad (Nc + (if r75.1 = 0 then 0 else 1)) C) dL_law_1947 16 rfl rfl (by decide) rfl ?_
                      refine z_goto (tgt := 100) (zC_pad (Nc + (if r75.1 = 0 then 0 else 1)) C) dL_law_1950 (by decide) ?_
                      refine z_iwiden (k := cl + 6) (n := sl + 36) (by omega) (by omega) ?_
                      exact z_sub (zC_pad (Nc + (if r75.1 = 0 then 0 else 1)) C) [7, 8, 9, 10, 11, 12, 13, 14, 15, 16, 0] rfl (hk100 Bc Pc Mc r75.2.1 r75.2.2.1 r75.2.2.2.1 r75.2.2.2.2 Wc Oc (Nc + (if r75.1 = 0 then 0 else 1)) (v10 + 1) hF)
                    · have hF := zelse hF c76
                      refine z_iconst (v := 0) (zC_pad (Nc + (if r75.1 = 0 then 0 else 1)) C) dL_law_1607 (by decide) ?_
                      exact absurd hF (fun q => nomatch q)
                · have hF := zif hF c53
                  refine z_goto (tgt := 1947) (zC_pad Nc C) dL_law_1552 (by decide) ?_
                  refine z_iinc (v := (v10 + 1)) (lv' := [(10, .int (v10 + 1)), (16, .int (r16 + r17)), (15, .int r15), (14, .int r14), (13, .int s0), (0, .ref b), (1, .ref ab), (2, .ref (aw 0)), (3, .ref (aw 1)), (4, .ref (aw 2)), (5, .ref (aw 3)), (6, .ref (aw 4)), (7, .ref (aw 5)), (8, .ref (aw 6)), (9, .ref (aw 7)), (11, .int v11), (12, .int v12)]) (zC_pad Nc C) dL_law_1947 14 rfl rfl (by decide) rfl ?_
                  refine z_goto (tgt := 100) (zC_pad Nc C) dL_law_1950 (by decide) ?_
                  refine z_iwiden (k := cl + 6) (n := sl + 36) (by omega) (by omega) ?_
                  exact z_sub (zC_pad Nc C) [5, 6, 7, 8, 9, 10, 11, 12, 13, 14, 0] rfl (hk100 Bc Pc Mc Tc Kc Uc Lc Wc Oc Nc (v10 + 1) hF)
            · have hF := zelse hF c23
              refine z_iload (zC_pad Nc C) dL_law_1270 16 rfl ?_
              refine z_iconst (v := 4) (zC_pad Nc C) dL_law_1272 (by decide) ?_
              refine z_ishr (zC_pad Nc C) dL_law_1273 ?_
              refine z_iconst (v := 2) (zC_pad Nc C) dL_law_1274 (by decide) ?_
              obtain ⟨r77, er77, hF⟩ := zbd hF
              refine z_callS (n := 2) (As := [.int (v12 >>> (4 &&& 31)), .int 2]) (zC_pad Nc C) (c_L_path l D cI cJ cZ (v12 >>> (4 &&& 31)) 2 r77 er77) gL_law_L_path rfl rfl rfl (by decide +kernel) ⟨Nat.le_of_ble_eq_true rfl, Nat.le_of_ble_eq_true rfl⟩ hf2 rfl rfl (Nat.le_of_ble_eq_true rfl) dL_law_1275 ?_
              refine z_istore (lv' := [(17, .int r77), (16, .int (r16 + r17)), (15, .int r15), (14, .int r14), (13, .int s0), (0, .ref b), (1, .ref ab), (2, .ref (aw 0)), (3, .ref (aw 1)), (4, .ref (aw 2)), (5, .ref (aw 3)), (6, .ref (aw 4)), (7, .ref (aw 5)), (8, .ref (aw 6)), (9, .ref (aw 7)), (10, .int v10), (11, .int v11), (12, .int v12)]) (zC_pad Nc C) dL_law_1278 (by decide) rfl ?_
              refine z_iload (zC_pad Nc C) dL_law_1280 3 rfl ?_
              refine z_iload (zC_pad Nc C) dL_law_1282 0 rfl ?_
              refine z_aload_n (zC_pad Nc C) dL_law_1284 rfl 7 rfl ?_
              refine z_aload_n (zC_pad Nc C) dL_law_1285 rfl 8 rfl ?_
              refine z_aload (zC_pad Nc C) dL_law_1286 13 rfl ?_
              refine z_aload (zC_pad Nc C) dL_law_1288 10 rfl ?_
              refine z_aload (zC_pad Nc C) dL_law_1290 11 rfl ?_
              refine z_aload (zC_pad Nc C) dL_law_1292 12 rfl ?_
              obtain ⟨r78, er78, hF⟩ := zbd hF
              refine z_callSW (n := 8) (As := [.int r14, .int r77, .ref (aw 0), .ref (aw 1), .ref (aw 6), .ref (aw 3), .ref (aw 4), .ref (aw 5)]) (ws' := (zwX7 cI cJ cZ ab a5 a3 a6 a1 a0 Bc Pc Mc Tc Kc Uc Lc ++ zwW cI cJ cZ aw Wc Oc)) (zC_pad Nc C) (c_L_why l D cI cJ cZ aw Wc Oc r14 r77 r78 er78) gL_law_L_why rfl rfl rfl (by decide +kernel) ⟨Nat.le_of_ble_eq_true rfl, Nat.le_of_ble_eq_true rfl⟩ hf2 (zwX7 cI cJ cZ ab a5 a3 a6 a1 a0 Bc Pc Mc Tc Kc Uc Lc) [] zAs5 zAs6 rfl rfl (Nat.le_of_ble_eq_true rfl) dL_law_1294 ?_
              refine z_istore (lv' := [(18, .int r78), (17, .int r77), (16, .int (r16 + r17)), (15, .int r15), (14, .int r14), (13, .int s0), (0, .ref b), (1, .ref ab), (2, .ref (aw 0)), (3, .ref (aw 1)), (4, .ref (aw 2)), (5, .ref (aw 3)), (6, .ref (aw 4)), (7, .ref (aw 5)), (8, .ref (aw 6)), (9, .ref (aw 7)), (10, .int v10), (11, .int v11), (12, .int v12)]) (zC_pad Nc C) dL_law_1297 (by decide) rfl ?_
              refine z_iload (zC_pad Nc C) dL_law_1299 0 rfl ?_
              refine z_if_ne (tgt := 1315) (zC_pad Nc C) dL_law_1301 (by decide) (fun c79 => ?_) (fun c79 => ?_)
              · have hF := zelse hF c79
                exact z_sub (zC_pad Nc C) [6, 7, 8, 9, 10, 11, 12, 13, 14, 15, 16, 17, 4, 3, 1, 0] rfl (c_L_law_j1315 l hl D cI cJ cZ ab a5 a3 a6 a1 a0 aw u C XE XN hX hbl cl sl (by omega) (by omega) k100 hk100 Bc Pc Mc Tc Kc Uc Lc Wc Oc Nc v10 v11 r14 r15 r77 r78 hF)
              · have hF := zif hF c79
                refine z_aload_n (zC_pad Nc C) dL_law_1304 rfl 8 rfl ?_
                refine z_iconst (v := 4) (zC_pad Nc C) dL_law_1305 (by decide) ?_
                obtain ⟨g109, hF⟩ := zix_some hF
                refine z_iald (v := ((Wc 0) (4 : Int32).toNatClampNeg)) (zC_pad Nc C) g109 30 rfl rfl rfl dL_law_1306 ?_
                refine z_bipush (v := 12) (zC_pad Nc C) dL_law_1307 (by decide) ?_
                refine z_icmp_ne (tgt := 1315) (zC_pad Nc C) dL_law_1309 (by decide) (fun c110 => ?_) (fun c110 => ?_)
                · have hF := zelse hF c110
                  exact z_sub (zC_pad Nc C) [6, 7, 8, 9, 10, 11, 12, 13, 14, 15, 16, 17, 4, 3, 1, 0] rfl (c_L_law_j1315 l hl D cI cJ cZ ab a5 a3 a6 a1 a0 aw u C XE XN hX hbl cl sl (by omega) (by omega) k100 hk100 Bc Pc Mc Tc Kc Uc Lc Wc Oc Nc v10 v11 r14 r15 r77 r78 hF)
                · have hF := zif hF c110
                  refine z_goto (tgt := 1947) (zC_pad Nc C) dL_law_1312 (by decide) ?_
                  refine z_iinc (v := (v10 + 1)) (lv' := [(10, .int (v10 + 1)), (18, .int r78), (17, .int r77), (16, .int (r16 + r17)), (15, .int r15), (14, .int r14), (13, .int s0), (0, .ref b), (1, .ref ab), (2, .ref (aw 0)), (3, .ref (aw 1)), (4, .ref (aw 2)), (5, .ref (aw 3)), (6, .ref (aw 4)), (7, .ref (aw 5)), (8, .ref (aw 6)), (9, .ref (aw 7)), (11, .int v11), (12, .int v12)]) (zC_pad Nc C) dL_law_1947 16 rfl rfl (by decide) rfl ?_
                  refine z_goto (tgt := 100) (zC_pad Nc C) dL_law_1950 (by decide) ?_
                  refine z_iwiden (k := cl + 6) (n := sl + 36) (by omega) (by omega) ?_
                  exact z_sub (zC_pad Nc C) [7, 8, 9, 10, 11, 12, 13, 14, 15, 16, 0] rfl (hk100 Bc Pc Mc Tc Kc Uc Lc Wc Oc Nc (v10 + 1) hF)
          · have hF := zelse hF c22
            refine z_iload (zC_pad Nc C) dL_law_1080 3 rfl ?_
            refine z_bipush (v := 8) (zC_pad Nc C) dL_law_1082 (by decide) ?_
            refine z_icmp_ne (tgt := 1091) (zC_pad Nc C) dL_law_1084 (by decide) (fun c111 => ?_) (fun c111 => ?_)
            · have hF := zelse hF c111
              refine z_iconst (v := 0) (zC_pad Nc C) dL_law_1091 (by decide) ?_
              exact z_sub (zC_pad Nc C) [4, 5, 6, 7, 8, 9, 10, 11, 12, 13, 14, 15, 2, 1, 0] rfl (c_L_law_j1092 l hl D cI cJ cZ ab a5 a3 a6 a1 a0 aw u C XE XN hX hbl cl sl (by omega) (by omega) k100 hk100 Bc Pc Mc Tc Kc Uc Lc Wc Oc Nc v10 v11 r14 r15 (r16 + r17) 0 hF)
            · have hF := zif hF c111
              refine z_iconst (v := 1) (zC_pad Nc C) dL_law_1087 (by decide) ?_
              refine z_goto (tgt := 1092) (zC_pad Nc C) dL_law_1088 (by decide) ?_
              exact z_sub (zC_pad Nc C) [4, 5, 6, 7, 8, 9, 10, 11, 12, 13, 14, 15, 2, 1, 0] rfl (c_L_law_j1092 l hl D cI cJ cZ ab a5 a3 a6 a1 a0 aw u C XE XN hX hbl cl sl (by omega) (by omega) k100 hk100 Bc Pc Mc Tc Kc Uc Lc Wc Oc Nc v10 v11 r14 r15 (r16 + r17) 1 hF)
        · have hF := zif hF c21
          refine z_iconst (v := 1) (zC_pad Nc C) dL_law_919 (by decide) ?_
          refine z_iload (zC_pad Nc C) dL_law_920 16 rfl ?_
          refine z_iconst (v := 4) (zC_pad Nc C) dL_law_922 (by decide) ?_
          refine z_ishr (zC_pad Nc C) dL_law_923 ?_
          refine z_bipush (v := 60) (zC_pad Nc C) dL_law_924 (by decide) ?_
          obtain ⟨r140, er140, hF⟩ := zbd hF
          refine z_callS (n := 2) (As := [.int (v12 >>> (4 &&& 31)), .int 60]) (zC_pad Nc C) (c_L_low l D cI cJ cZ (v12 >>> (4 &&& 31)) 60 r140 er140) gL_law_L_low rfl rfl rfl (by decide +kernel) ⟨Nat.le_of_ble_eq_true rfl, Nat.le_of_ble_eq_true rfl⟩ hf2 rfl rfl (Nat.le_of_ble_eq_true rfl) dL_law_926 ?_
          refine z_iadd (zC_pad Nc C) dL_law_929 ?_
          refine z_istore (lv' := [(17, .int (1 + r140)), (16, .int (r16 + r17)), (15, .int r15), (14, .int r14), (13, .int s0), (0, .ref b), (1, .ref ab), (2, .ref (aw 0)), (3, .ref (aw 1)), (4, .ref (aw 2)), (5, .ref (aw 3)), (6, .ref (aw 4)), (7, .ref (aw 5)), (8, .ref (aw 6)), (9, .ref (aw 7)), (10, .int v10), (11, .int v11), (12, .int v12)]) (zC_pad Nc C) dL_law_930 (by decide) rfl ?_
          refine z_iload (zC_pad Nc C) dL_law_932 3 rfl ?_
          refine z_if_eq (tgt := 942) (zC_pad Nc C) dL_law_934 (by decide) (fun c141 => ?_) (fun c141 => ?_)
          · have hF := zif hF c141
            exact z_sub (zC_pad Nc C) [5, 6, 7, 8, 9, 10, 11, 12, 13, 14, 15, 3, 0] rfl (c_L_law_j942 l hl D cI cJ cZ ab a5 a3 a6 a1 a0 aw u C XE XN hX hbl cl sl (by omega) (by omega) k100 hk100 Bc Pc Mc Tc Kc Uc Lc Wc Oc Nc v10 r14 (1 + r140) hF)
          · have hF := zelse hF c141
            refine z_iload (zC_pad Nc C) dL_law_937 2 rfl ?_
            refine z_if_ne (tgt := 958) (zC_pad Nc C) dL_law_939 (by decide) (fun c144 => ?_) (fun c144 => ?_)
            · have hF := zelse hF c144
              refine z_aload_n (zC_pad Nc C) dL_law_958 rfl 7 rfl ?_
              refine z_iconst (v := 0) (zC_pad Nc C) dL_law_959 (by decide) ?_
              obtain ⟨g145, hF⟩ := zix_some hF
              refine z_iald (v := ((Wc 0) (0 : Int32).toNatClampNeg)) (zC_pad Nc C) g145 30 rfl rfl rfl dL_law_960 ?_
              refine z_iload (zC_pad Nc C) dL_law_961 0 rfl ?_
              refine z_iadd (zC_pad Nc C) dL_law_963 ?_
              refine z_aload_n (zC_pad Nc C) dL_law_964 rfl 8 rfl ?_
              refine z_iconst (v := 5) (zC_pad Nc C) dL_law_965 (by decide) ?_
              refine z_iload (zC_pad Nc C) dL_law_966 3 rfl ?_
              refine z_imul (zC_pad Nc C) dL_law_968 ?_
              refine z_iconst (v := 3) (zC_pad Nc C) dL_law_969 (by decide) ?_
              refine z_iadd (zC_pad Nc C) dL_law_970 ?_
              obtain ⟨g146, hF⟩ := zix_some hF
              refine z_iald (v := ((Wc 1) ((5 * r14) + 3).toNatClampNeg)) (zC_pad Nc C) g146 31 rfl rfl rfl dL_law_971 ?_
              refine z_icmp_ge (tgt := 984) (zC_pad Nc C) dL_law_972 (by decide) (fun c147 => ?_) (fun c147 => ?_)
              · have hF := zif hF c147
                refine z_aload_n (zC_pad Nc C) dL_law_984 rfl 8 rfl ?_
                refine z_iconst (v := 5) (zC_pad Nc C) dL_law_985 (by decide) ?_
                refine z_iload (zC_pad Nc C) dL_law_986 3 rfl ?_
                refine z_imul (zC_pad Nc C) dL_law_988 ?_
                refine z_iconst (v := 3) (zC_pad Nc C) dL_law_989 (by decide) ?_
                refine z_iadd (zC_pad Nc C) dL_law_990 ?_
                obtain ⟨g148, hF⟩ := zix_some hF
                refine z_iald (v := ((Wc 1) ((5 * r14) + 3).toNatClampNeg)) (zC_pad Nc C) g148 31 rfl rfl rfl dL_law_991 ?_
                exact z_sub (zC_pad Nc C) [5, 6, 7, 8, 9, 10, 11, 12, 13, 14, 15, 16, 3, 0] rfl (c_L_law_j992 l hl D cI cJ cZ ab a5 a3 a6 a1 a0 aw u C XE XN hX hbl cl sl (by omega) (by omega) k100 hk100 Bc Pc Mc Tc Kc Uc Lc Wc Oc Nc v10 v11 r14 (1 + r140) ((Wc 1) ((5 * r14) + 3).toNatClampNeg) hF)
              · have hF := zelse hF c147
                refine z_aload_n (zC_pad Nc C) dL_law_975 rfl 7 rfl ?_
                refine z_iconst (v := 0) (zC_pad Nc C) dL_law_976 (by decide) ?_
                obtain ⟨g159, hF⟩ := zix_some hF
                refine z_iald (v := ((Wc 0) (0 : Int32).toNatClampNeg)) (zC_pad Nc C) g159 30 rfl rfl rfl dL_law_977 ?_
                refine z_iload (zC_pad Nc C) dL_law_978 0 rfl ?_
                refine z_iadd (zC_pad Nc C) dL_law_980 ?_
                refine z_goto (tgt := 992) (zC_pad Nc C) dL_law_981 (by decide) ?_
                exact z_sub (zC_pad Nc C) [5, 6, 7, 8, 9, 10, 11, 12, 13, 14, 15, 16, 3, 0] rfl (c_L_law_j992 l hl D cI cJ cZ ab a5 a3 a6 a1 a0 aw u C XE XN hX hbl cl sl (by omega) (by omega) k100 hk100 Bc Pc Mc Tc Kc Uc Lc Wc Oc Nc v10 v11 r14 (1 + r140) (((Wc 0) (0 : Int32).toNatClampNeg) + (1 + r140)) hF)
            · have hF := zif hF c144
              exact z_sub (zC_pad Nc C) [5, 6, 7, 8, 9, 10, 11, 12, 13, 14, 15, 3, 0] rfl (c_L_law_j942 l hl D cI cJ cZ ab a5 a3 a6 a1 a0 aw u C XE XN hX hbl cl sl (by omega) (by omega) k100 hk100 Bc Pc Mc Tc Kc Uc Lc Wc Oc Nc v10 r14 (1 + r140) hF)
      · have hF := zelse hF c20
        refine z_iconst (v := 1) (zC_pad Nc C) dL_law_623 (by decide) ?_
        refine z_iload (zC_pad Nc C) dL_law_624 16 rfl ?_
        refine z_iconst (v := 4) (zC_pad Nc C) dL_law_626 (by decide) ?_
        refine z_ishr (zC_pad Nc C) dL_law_627 ?_
        refine z_bipush (v := 40) (zC_pad Nc C) dL_law_628 (by decide) ?_
        obtain ⟨r160, er160, hF⟩ := zbd hF
        refine z_callS (n := 2) (As := [.int (v12 >>> (4 &&& 31)), .int 40]) (zC_pad Nc C) (c_L_low l D cI cJ cZ (v12 >>> (4 &&& 31)) 40 r160 er160) gL_law_L_low rfl rfl rfl (by decide +kernel) ⟨Nat.le_of_ble_eq_true rfl, Nat.le_of_ble_eq_true rfl⟩ hf2 rfl rfl (Nat.le_of_ble_eq_true rfl) dL_law_630 ?_
        refine z_iadd (zC_pad Nc C) dL_law_633 ?_
        refine z_istore (lv' := [(17, .int (1 + r160)), (16, .int (r16 + r17)), (15, .int r15), (14, .int r14), (13, .int s0), (0, .ref b), (1, .ref ab), (2, .ref (aw 0)), (3, .ref (aw 1)), (4, .ref (aw 2)), (5, .ref (aw 3)), (6, .ref (aw 4)), (7, .ref (aw 5)), (8, .ref (aw 6)), (9, .ref (aw 7)), (10, .int v10), (11, .int v11), (12, .int v12)]) (zC_pad Nc C) dL_law_634 (by decide) rfl ?_
        refine z_iload (zC_pad Nc C) dL_law_636 0 rfl ?_
        refine z_iload (zC_pad Nc C) dL_law_638 17 rfl ?_
        refine z_bipush (v := 10) (zC_pad Nc C) dL_law_640 (by decide) ?_
        refine z_ishr (zC_pad Nc C) dL_law_642 ?_
        refine z_bipush (v := 30) (zC_pad Nc C) dL_law_643 (by decide) ?_
        obtain ⟨r161, er161, hF⟩ := zbd hF
        refine z_callS (n := 2) (As := [.int (v12 >>> (10 &&& 31)), .int 30]) (zC_pad Nc C) (c_L_low l D cI cJ cZ (v12 >>> (10 &&& 31)) 30 r161 er161) gL_law_L_low rfl rfl rfl (by decide +kernel) ⟨Nat.le_of_ble_eq_true rfl, Nat.le_of_ble_eq_true rfl⟩ hf2 rfl rfl (Nat.le_of_ble_eq_true rfl) dL_law_645 ?_
        refine z_iadd (zC_pad Nc C) dL_law_648 ?_
        refine z_istore (lv' := [(18, .int ((1 + r160) + r161)), (17, .int (1 + r160)), (16, .int (r16 + r17)), (15, .int r15), (14, .int r14), (13, .int s0), (0, .ref b), (1, .ref ab), (2, .ref (aw 0)), (3, .ref (aw 1)), (4, .ref (aw 2)), (5, .ref (aw 3)), (6, .ref (aw 4)), (7, .ref (aw 5)), (8, .ref (aw 6)), (9, .ref (aw 7)), (10, .int v10), (11, .int v11), (12, .int v12)]) (zC_pad Nc C) dL_law_649 (by decide) rfl ?_
        refine z_iload (zC_pad Nc C) dL_law_651 4 rfl ?_
        refine z_if_ne (tgt := 668) (zC_pad Nc C) dL_law_653 (by decide) (fun c162 => ?_) (fun c162 => ?_)
        · have hF := zelse hF c162
          refine z_iload (zC_pad Nc C) dL_law_668 17 rfl ?_
          refine z_iconst (v := 5) (zC_pad Nc C) dL_law_670 (by decide) ?_
          refine z_ishr (zC_pad Nc C) dL_law_671 ?_
          refine z_bipush (v := 8) (zC_pad Nc C) dL_law_672 (by decide) ?_
          obtain ⟨r163, er163, hF⟩ := zbd hF
          refine z_callS (n := 2) (As := [.int (v11 >>> (5 &&& 31)), .int 8]) (zC_pad Nc C) (c_L_low l D cI cJ cZ (v11 >>> (5 &&& 31)) 8 r163 er163) gL_law_L_low rfl rfl rfl (by decide +kernel) ⟨Nat.le_of_ble_eq_true rfl, Nat.le_of_ble_eq_true rfl⟩ hf2 rfl rfl (Nat.le_of_ble_eq_true rfl) dL_law_674 ?_
          refine z_aload_n (zC_pad Nc C) dL_law_677 rfl 9 rfl ?_
          refine z_iconst (v := 5) (zC_pad Nc C) dL_law_678 (by decide) ?_
          refine z_iload (zC_pad Nc C) dL_law_679 4 rfl ?_
          refine z_imul (zC_pad Nc C) dL_law_681 ?_
          refine z_iconst (v := 1) (zC_pad Nc C) dL_law_682 (by decide) ?_
          refine z_iadd (zC_pad Nc C) dL_law_683 ?_
          obtain ⟨g164, hF⟩ := zix_some hF
          refine z_iald (v := ((Wc 1) ((5 * r14) + 1).toNatClampNeg)) (zC_pad Nc C) g164 31 rfl rfl rfl dL_law_684 ?_
          refine z_iand (zC_pad Nc C) dL_law_685 ?_
          exact z_sub (zC_pad Nc C) [6, 7, 8, 9, 10, 11, 12, 13, 14, 15, 16, 17, 18, 4, 3, 1, 0] rfl (c_L_law_j686 l hl D cI cJ cZ ab a5 a3 a6 a1 a0 aw u C XE XN hX hbl cl sl (by omega) (by omega) k100 hk100 Bc Pc Mc Tc Kc Uc Lc Wc Oc Nc v10 v11 v12 r14 r15 (1 + r160) ((1 + r160) + r161) (r163 &&& ((Wc 1) ((5 * r14) + 1).toNatClampNeg)) hF)
        · have hF := zif hF c162
          refine z_iload (zC_pad Nc C) dL_law_656 17 rfl ?_
          refine z_iconst (v := 5) (zC_pad Nc C) dL_law_658 (by decide) ?_
          refine z_ishr (zC_pad Nc C) dL_law_659 ?_
          refine z_bipush (v := 8) (zC_pad Nc C) dL_law_660 (by decide) ?_
          obtain ⟨r194, er194, hF⟩ := zbd hF
          refine z_callS (n := 2) (As := [.int (v11 >>> (5 &&& 31)), .int 8]) (zC_pad Nc C) (c_L_low l D cI cJ cZ (v11 >>> (5 &&& 31)) 8 r194 er194) gL_law_L_low rfl rfl rfl (by decide +kernel) ⟨Nat.le_of_ble_eq_true rfl, Nat.le_of_ble_eq_true rfl⟩ hf2 rfl rfl (Nat.le_of_ble_eq_true rfl) dL_law_662 ?_
          refine z_goto (tgt := 686) (zC_pad Nc C) dL_law_665 (by decide) ?_
          exact z_sub (zC_pad Nc C) [6, 7, 8, 9, 10, 11, 12, 13, 14, 15, 16, 17, 18, 4, 3, 1, 0] rfl (c_L_law_j686 l hl D cI cJ cZ ab a5 a3 a6 a1 a0 aw u C XE XN hX hbl cl sl (by omega) (by omega) k100 hk100 Bc Pc Mc Tc Kc Uc Lc Wc Oc Nc v10 v11 v12 r14 r15 (1 + r160) ((1 + r160) + r161) r194 hF)
    · have hF := zif hF c19
      refine z_iload (zC_pad Nc C) dL_law_458 15 rfl ?_
      refine z_iconst (v := 4) (zC_pad Nc C) dL_law_460 (by decide) ?_
      refine z_ishr (zC_pad Nc C) dL_law_461 ?_
      refine z_iconst (v := 2) (zC_pad Nc C) dL_law_462 (by decide) ?_
      obtain ⟨r195, er195, hF⟩ := zbd hF
      refine z_callS (n := 2) (As := [.int (v11 >>> (4 &&& 31)), .int 2]) (zC_pad Nc C) (c_L_path l D cI cJ cZ (v11 >>> (4 &&& 31)) 2 r195 er195) gL_law_L_path rfl rfl rfl (by decide +kernel) ⟨Nat.le_of_ble_eq_true rfl, Nat.le_of_ble_eq_true rfl⟩ hf2 rfl rfl (Nat.le_of_ble_eq_true rfl) dL_law_463 ?_
      refine z_istore (lv' := [(17, .int r195), (16, .int (r16 + r17)), (15, .int r15), (14, .int r14), (13, .int s0), (0, .ref b), (1, .ref ab), (2, .ref (aw 0)), (3, .ref (aw 1)), (4, .ref (aw 2)), (5, .ref (aw 3)), (6, .ref (aw 4)), (7, .ref (aw 5)), (8, .ref (aw 6)), (9, .ref (aw 7)), (10, .int v10), (11, .int v11), (12, .int v12)]) (zC_pad Nc C) dL_law_466 (by decide) rfl ?_
      refine z_iconst (v := 0) (zC_pad Nc C) dL_law_468 (by decide) ?_
      refine z_istore (lv' := [(18, .int 0), (17, .int r195), (16, .int (r16 + r17)), (15, .int r15), (14, .int r14), (13, .int s0), (0, .ref b), (1, .ref ab), (2, .ref (aw 0)), (3, .ref (aw 1)), (4, .ref (aw 2)), (5, .ref (aw 3)), (6, .ref (aw 4)), (7, .ref (aw 5)), (8, .ref (aw 6)), (9, .ref (aw 7)), (10, .int v10), (11, .int v11), (12, .int v12)]) (zC_pad Nc C) dL_law_469 (by decide) rfl ?_
      exact z_sub (zC_pad Nc C) [6, 7, 8, 9, 10, 11, 12, 13, 14, 15, 16, 17, 18, 1, 0] rfl (c_L_law_j471 l hl D cI cJ cZ ab a5 a3 a6 a1 a0 aw u C XE XN hX hbl cl sl (by omega) (by omega) k100 hk100 600 Bc Pc Mc Tc Kc Uc Lc Wc Oc Nc v10 v11 v12 r195 0 hF)
  · have hF := zelse hF c18
    refine z_iload (zC_pad Nc C) dL_law_209 16 rfl ?_
    refine z_iconst (v := 3) (zC_pad Nc C) dL_law_211 (by decide) ?_
    obtain ⟨r216, er216, hF⟩ := zbd hF
    refine z_callS (n := 2) (As := [.int v12, .int 3]) (zC_pad Nc C) (c_L_low l D cI cJ cZ v12 3 r216 er216) gL_law_L_low rfl rfl rfl (by decide +kernel) ⟨Nat.le_of_ble_eq_true rfl, Nat.le_of_ble_eq_true rfl⟩ hf2 rfl rfl (Nat.le_of_ble_eq_true rfl) dL_law_212 ?_
    refine z_istore (lv' := [(17, .int r216), (16, .int (r16 + r17)), (15, .int r15), (14, .int r14), (13, .int s0), (0, .ref b), (1, .ref ab), (2, .ref (aw 0)), (3, .ref (aw 1)), (4, .ref (aw 2)), (5, .ref (aw 3)), (6, .ref (aw 4)), (7, .ref (aw 5)), (8, .ref (aw 6)), (9, .ref (aw 7)), (10, .int v10), (11, .int v11), (12, .int v12)]) (zC_pad Nc C) dL_law_215 (by decide) rfl ?_
    refine z_iload (zC_pad Nc C) dL_law_217 16 rfl ?_
    refine z_iconst (v := 4) (zC_pad Nc C) dL_law_219 (by decide) ?_
    refine z_ishr (zC_pad Nc C) dL_law_220 ?_
    refine z_iconst (v := 3) (zC_pad Nc C) dL_law_221 (by decide) ?_
    obtain ⟨r217, er217, hF⟩ := zbd hF
    refine z_callS (n := 2) (As := [.int (v11 >>> (4 &&& 31)), .int 3]) (zC_pad Nc C) (c_L_path l D cI cJ cZ (v11 >>> (4 &&& 31)) 3 r217 er217) gL_law_L_path rfl rfl rfl (by decide +kernel) ⟨Nat.le_of_ble_eq_true rfl, Nat.le_of_ble_eq_true rfl⟩ hf2 rfl rfl (Nat.le_of_ble_eq_true rfl) dL_law_222 ?_
    refine z_istore (lv' := [(18, .int r217), (17, .int r216), (16, .int (r16 + r17)), (15, .int r15), (14, .int r14), (13, .int s0), (0, .ref b), (1, .ref ab), (2, .ref (aw 0)), (3, .ref (aw 1)), (4, .ref (aw 2)), (5, .ref (aw 3)), (6, .ref (aw 4)), (7, .ref (aw 5)), (8, .ref (aw 6)), (9, .ref (aw 7)), (10, .int v10), (11, .int v11), (12, .int v12)]) (zC_pad Nc C) dL_law_225 (by decide) rfl ?_
    refine z_iload (zC_pad Nc C) dL_law_227 18 rfl ?_
    refine z_iconst (v := 2) (zC_pad Nc C) dL_law_229 (by decide) ?_
    refine z_ishr (zC_pad Nc C) dL_law_230 ?_
    refine z_iconst (v := 3) (zC_pad Nc C) dL_law_231 (by decide) ?_
    obtain ⟨r218, er218, hF⟩ := zbd hF
    refine z_callS (n := 2) (As := [.int (v12 >>> (2 &&& 31)), .int 3]) (zC_pad Nc C) (c_L_low l D cI cJ cZ (v12 >>> (2 &&& 31)) 3 r218 er218) gL_law_L_low rfl rfl rfl (by decide +kernel) ⟨Nat.le_of_ble_eq_true rfl, Nat.le_of_ble_eq_true rfl⟩ hf2 rfl rfl (Nat.le_of_ble_eq_true rfl) dL_law_232 ?_
    refine z_if_ne (tgt := 252) (zC_pad Nc C) dL_law_235 (by decide) (fun c219 => ?_) (fun c219 => ?_)
    · have hF := zelse hF c219
      refine z_iload (zC_pad Nc C) dL_law_252 0 rfl ?_
      exact z_sub (zC_pad Nc C) [6, 7, 8, 9, 10, 11, 12, 13, 14, 15, 16, 17, 18, 1] rfl (c_L_law_j254 l hl D cI cJ cZ ab a5 a3 a6 a1 a0 aw u C XE XN hX hbl cl sl (by omega) (by omega) k100 hk100 Bc Pc Mc Tc Kc Uc Lc Wc Oc Nc v10 v11 v12 r216 r217 hF)
    · have hF := zif hF c219
      refine z_iload (zC_pad Nc C) dL_law_238 0 rfl ?_
      refine z_bipush (v := 9) (zC_pad Nc C) dL_law_240 (by decide) ?_
      refine z_iadd (zC_pad Nc C) dL_law_242 ?_
      refine z_iload (zC_pad Nc C) dL_law_243 0 rfl ?_
      refine z_bipush (v := 10) (zC_pad Nc C) dL_law_245 (by decide) ?_
      refine z_irem (zC_pad Nc C) dL_law_247 (by decide) ?_
      refine z_isub (zC_pad Nc C) dL_law_248 ?_
      refine z_goto (tgt := 254) (zC_pad Nc C) dL_law_249 (by decide) ?_
      exact z_sub (zC_pad Nc C) [6, 7, 8, 9, 10, 11, 12, 13, 14, 15, 16, 17, 18, 1] rfl (c_L_law_j254 l hl D cI cJ cZ ab a5 a3 a6 a1 a0 aw u C XE XN hX hbl cl sl (by omega) (by omega) k100 hk100 Bc Pc Mc Tc Kc Uc Lc Wc Oc Nc v10 v11 v12 r216 ((r217 + 9) - (r217 - r217 / 10 * 10)) hF)
set_option maxHeartbeats 4000000 in
set_option maxRecDepth 100000 in
theorem c_L_law_j100 (l : Launch) (hl : l.stackTraces = false) (D : va_G) (cI cJ cZ : ClassId) (ab : Nat) (a5 a3 a6 a1 a0 aw : Nat → Nat) (u : Nat) {p : Program} {e : Env} {s : State} {m : MethodId} {below : List Frame} {meth : Method} {c : Code} {b sL : Nat} {xs : Nat → Int32} (C : zC p s m #[.ref b] meth c cL_law 22 ret RL wsL_law D (zTy cI cJ cZ) (zAq s) s.heap) (XE : zE (zAq s) s s.heap) (XN : zN s) (hX : va_X b sL xs s s.heap) (hbl : b < s.heap.size) : ∀ (n cl sl : Nat) (hc0 : cl + 6 * n ≤ 8000) (hs0 : sl + 36 * n ≤ 60000) (Bc : SS) (Pc : SS) (Mc : SS) (Tc : SS) (Kc : SS) (Uc : SS) (Lc : SL) (Wc : SS) (Oc : SL) (Nc : Nat) (v10 : Int32), f_L_law_100 xs sL n Bc Pc Mc Tc Kc Uc Lc Wc Oc Nc v10 = some u → zW p l e room_R s m #[.ref b] below meth c 22 D (zAq s) (zpad s.heap Nc) cl sl (lw_Z2 below s u) (zwX7 cI cJ cZ ab a5 a3 a6 a1 a0 Bc Pc Mc Tc Kc Uc Lc ++ zwW cI cJ cZ aw Wc Oc) [(0, .ref b), (1, .ref ab), (2, .ref (aw 0)), (3, .ref (aw 1)), (4, .ref (aw 2)), (5, .ref (aw 3)), (6, .ref (aw 4)), (7, .ref (aw 5)), (8, .ref (aw 6)), (9, .ref (aw 7)), (10, .int v10)] 100 [] := by
  intro n
  induction n with
  | zero => intro cl sl hc0 hs0 Bc Pc Mc Tc Kc Uc Lc Wc Oc Nc v10 hF; exact absurd (show none = some u from hF) (fun q => nomatch q)
  | succ n ih =>
    intro cl sl hc0 hs0 Bc Pc Mc Tc Kc Uc Lc Wc Oc Nc v10 hF
    have hf0 : cl + 0 ≤ room_R.cells ∧ sl + 0 ≤ room_R.slots := ⟨by show _ ≤ 8000; omega, by show _ ≤ 60000; omega⟩
    have hf1 : cl + 1 ≤ room_R.cells ∧ sl + 6 ≤ room_R.slots := ⟨by show _ ≤ 8000; omega, by show _ ≤ 60000; omega⟩
    have hf2 : cl + 2 ≤ room_R.cells ∧ sl + 12 ≤ room_R.slots := ⟨by show _ ≤ 8000; omega, by show _ ≤ 60000; omega⟩
    have hf3 : cl + 3 ≤ room_R.cells ∧ sl + 18 ≤ room_R.slots := ⟨by show _ ≤ 8000; omega, by show _ ≤ 60000; omega⟩
    have hf4 : cl + 4 ≤ room_R.cells ∧ sl + 24 ≤ room_R.slots := ⟨by show _ ≤ 8000; omega, by show _ ≤ 60000; omega⟩
    have hf5 : cl + 5 ≤ room_R.cells ∧ sl + 30 ≤ room_R.slots := ⟨by show _ ≤ 8000; omega, by show _ ≤ 60000; omega⟩
    have hf6 : cl + 6 ≤ room_R.cells ∧ sl + 36 ≤ room_R.slots := ⟨by show _ ≤ 8000; omega, by show _ ≤ 60000; omega⟩
    have hbA : ¬ zAq s b := Nat.not_le.mpr hbl
    refine z_iload (zC_pad Nc C) dL_law_100 10 rfl ?_
    refine z_bipush (v := 56) (zC_pad Nc C) dL_law_102 (by decide) ?_
    refine z_icmp_ge (tgt := 1953) (zC_pad Nc C) dL_law_104 (by decide) (fun c6 => ?_) (fun c6 => ?_)
    · have hF := zif hF c6
      refine z_iconst (v := 1) (zC_pad Nc C) dL_law_1953 (by decide) ?_
      have hu := Option.some.inj hF
      subst hu
      exact z_one2 (zC_pad Nc C) dL_law_1954
    · have hF := zelse hF c6
      refine z_aload_n (zC_pad Nc C) dL_law_107 rfl 0 rfl ?_
      refine z_iconst (v := 2) (zC_pad Nc C) dL_law_108 (by decide) ?_
      refine z_iload (zC_pad Nc C) dL_law_109 10 rfl ?_
      refine z_imul (zC_pad Nc C) dL_law_111 ?_
      obtain ⟨r7, er7, hF⟩ := zbd hF
      refine z_ccall (n := 2) (As := [.ref b, .int (2 * v10)]) (zC_pad Nc C) hX hbl hbA (zhb_p C) (c_L_cell l D cI cJ cZ b sL xs (2 * v10) r7 er7) gL_law_L_cell rfl rfl rfl (by decide +kernel) ⟨Nat.le_of_ble_eq_true rfl, Nat.le_of_ble_eq_true rfl⟩ hf0 rfl rfl (Nat.le_of_ble_eq_true rfl) dL_law_112 ?_
      refine z_istore (lv' := [(11, .int r7), (0, .ref b), (1, .ref ab), (2, .ref (aw 0)), (3, .ref (aw 1)), (4, .ref (aw 2)), (5, .ref (aw 3)), (6, .ref (aw 4)), (7, .ref (aw 5)), (8, .ref (aw 6)), (9, .ref (aw 7)), (10, .int v10)]) (zC_pad Nc C) dL_law_115 (by decide) rfl ?_
      refine z_aload_n (zC_pad Nc C) dL_law_117 rfl 1 rfl ?_
      refine z_iconst (v := 2) (zC_pad Nc C) dL_law_118 (by decide) ?_
      refine z_iload (zC_pad Nc C) dL_law_119 11 rfl ?_
      refine z_imul (zC_pad Nc C) dL_law_121 ?_
      refine z_iconst (v := 1) (zC_pad Nc C) dL_law_122 (by decide) ?_
      refine z_iadd (zC_pad Nc C) dL_law_123 ?_
      obtain ⟨r8, er8, hF⟩ := zbd hF
      refine z_ccall (n := 2) (As := [.ref b, .int ((2 * v10) + 1)]) (zC_pad Nc C) hX hbl hbA (zhb_p C) (c_L_cell l D cI cJ cZ b sL xs ((2 * v10) + 1) r8 er8) gL_law_L_cell rfl rfl rfl (by decide +kernel) ⟨Nat.le_of_ble_eq_true rfl, Nat.le_of_ble_eq_true rfl⟩ hf0 rfl rfl (Nat.le_of_ble_eq_true rfl) dL_law_124 ?_
      refine z_istore (lv' := [(12, .int r8), (11, .int r7), (0, .ref b), (1, .ref ab), (2, .ref (aw 0)), (3, .ref (aw 1)), (4, .ref (aw 2)), (5, .ref (aw 3)), (6, .ref (aw 4)), (7, .ref (aw 5)), (8, .ref (aw 6)), (9, .ref (aw 7)), (10, .int v10)]) (zC_pad Nc C) dL_law_127 (by decide) rfl ?_
      refine z_iload (zC_pad Nc C) dL_law_129 12 rfl ?_
      refine z_iconst (v := 2) (zC_pad Nc C) dL_law_131 (by decide) ?_
      refine z_icmp_ge (tgt := 139) (zC_pad Nc C) dL_law_132 (by decide) (fun c9 => ?_) (fun c9 => ?_)
      · have hF := zif hF c9
        refine z_iload (zC_pad Nc C) dL_law_139 12 rfl ?_
        refine z_iconst (v := 4) (zC_pad Nc C) dL_law_141 (by decide) ?_
        refine z_icmp_ge (tgt := 149) (zC_pad Nc C) dL_law_142 (by decide) (fun c10 => ?_) (fun c10 => ?_)
        · have hF := zif hF c10
          refine z_iload (zC_pad Nc C) dL_law_149 12 rfl ?_
          refine z_bipush (v := 6) (zC_pad Nc C) dL_law_151 (by decide) ?_
          refine z_icmp_ge (tgt := 160) (zC_pad Nc C) dL_law_153 (by decide) (fun c11 => ?_) (fun c11 => ?_)
          · have hF := zif hF c11
            refine z_iload (zC_pad Nc C) dL_law_160 1 rfl ?_
            refine z_bipush (v := 20) (zC_pad Nc C) dL_law_162 (by decide) ?_
            obtain ⟨r12, er12, hF⟩ := zbd hF
            refine z_callS (n := 2) (As := [.int r7, .int 20]) (zC_pad Nc C) (c_L_low l D cI cJ cZ r7 20 r12 er12) gL_law_L_low rfl rfl rfl (by decide +kernel) ⟨Nat.le_of_ble_eq_true rfl, Nat.le_of_ble_eq_true rfl⟩ hf0 rfl rfl (Nat.le_of_ble_eq_true rfl) dL_law_164 ?_
            refine z_iwiden (k := cl + 2) (n := sl + 12) (by omega) (by omega) ?_
            exact z_sub (zC_pad Nc C) [2, 3, 4, 5, 6, 7, 8, 9, 10, 11, 12, 1, 0] rfl (c_L_law_j167 l hl D cI cJ cZ ab a5 a3 a6 a1 a0 aw u C XE XN hX hbl cl sl (by omega) (by omega) (f_L_law_100 xs sL n) (fun Bc_ Pc_ Mc_ Tc_ Kc_ Uc_ Lc_ Wc_ Oc_ Nc_ v10_ hF => ih (cl + 6) (sl + 36) (by omega) (by omega) Bc_ Pc_ Mc_ Tc_ Kc_ Uc_ Lc_ Wc_ Oc_ Nc_ v10_ hF) Bc Pc Mc Tc Kc Uc Lc Wc Oc Nc v10 r7 r8 r12 hF)
          · have hF := zelse hF c11
            refine z_iconst (v := 4) (zC_pad Nc C) dL_law_156 (by decide) ?_
            refine z_goto (tgt := 167) (zC_pad Nc C) dL_law_157 (by decide) ?_
            refine z_iwiden (k := cl + 2) (n := sl + 12) (by omega) (by omega) ?_
            exact z_sub (zC_pad Nc C) [2, 3, 4, 5, 6, 7, 8, 9, 10, 11, 12, 1, 0] rfl (c_L_law_j167 l hl D cI cJ cZ ab a5 a3 a6 a1 a0 aw u C XE XN hX hbl cl sl (by omega) (by omega) (f_L_law_100 xs sL n) (fun Bc_ Pc_ Mc_ Tc_ Kc_ Uc_ Lc_ Wc_ Oc_ Nc_ v10_ hF => ih (cl + 6) (sl + 36) (by omega) (by omega) Bc_ Pc_ Mc_ Tc_ Kc_ Uc_ Lc_ Wc_ Oc_ Nc_ v10_ hF) Bc Pc Mc Tc Kc Uc Lc Wc Oc Nc v10 r7 r8 4 hF)
        · have hF := zelse hF c10
          refine z_iconst (v := 3) (zC_pad Nc C) dL_law_145 (by decide) ?_
          refine z_goto (tgt := 167) (zC_pad Nc C) dL_law_146 (by decide) ?_
          refine z_iwiden (k := cl + 2) (n := sl + 12) (by omega) (by omega) ?_
          exact z_sub (zC_pad Nc C) [2, 3, 4, 5, 6, 7, 8, 9, 10, 11, 12, 1, 0] rfl (c_L_law_j167 l hl D cI cJ cZ ab a5 a3 a6 a1 a0 aw u C XE XN hX hbl cl sl (by omega) (by omega) (f_L_law_100 xs sL n) (fun Bc_ Pc_ Mc_ Tc_ Kc_ Uc_ Lc_ Wc_ Oc_ Nc_ v10_ hF => ih (cl + 6) (sl + 36) (by omega) (by omega) Bc_ Pc_ Mc_ Tc_ Kc_ Uc_ Lc_ Wc_ Oc_ Nc_ v10_ hF) Bc Pc Mc Tc Kc Uc Lc Wc Oc Nc v10 r7 r8 3 hF)
      · have hF := zelse hF c9
        refine z_iconst (v := 0) (zC_pad Nc C) dL_law_135 (by decide) ?_
        refine z_goto (tgt := 167) (zC_pad Nc C) dL_law_136 (by decide) ?_
        refine z_iwiden (k := cl + 2) (n := sl + 12) (by omega) (by omega) ?_
        exact z_sub (zC_pad Nc C) [2, 3, 4, 5, 6, 7, 8, 9, 10, 11, 12, 1, 0] rfl (c_L_law_j167 l hl D cI cJ cZ ab a5 a3 a6 a1 a0 aw u C XE XN hX hbl cl sl (by omega) (by omega) (f_L_law_100 xs sL n) (fun Bc_ Pc_ Mc_ Tc_ Kc_ Uc_ Lc_ Wc_ Oc_ Nc_ v10_ hF => ih (cl + 6) (sl + 36) (by omega) (by omega) Bc_ Pc_ Mc_ Tc_ Kc_ Uc_ Lc_ Wc_ Oc_ Nc_ v10_ hF) Bc Pc Mc Tc Kc Uc Lc Wc Oc Nc v10 r7 r8 0 hF)
set_option maxHeartbeats 4000000 in
set_option maxRecDepth 100000 in
theorem c_L_law_j74 (l : Launch) (hl : l.stackTraces = false) (D : va_G) (cI cJ cZ : ClassId) (ab : Nat) (a5 a3 a6 a1 a0 aw : Nat → Nat) (u : Nat) {p : Program} {e : Env} {s : State} {m : MethodId} {below : List Frame} {meth : Method} {c : Code} {b sL : Nat} {xs : Nat → Int32} (C : zC p s m #[.ref b] meth c cL_law 22 ret RL wsL_law D (zTy cI cJ cZ) (zAq s) s.heap) (XE : zE (zAq s) s s.heap) (XN : zN s) (hX : va_X b sL xs s s.heap) (hbl : b < s.heap.size) (cl sl : Nat) (hc : cl + 4000 ≤ 8000) (hs : sl + 30000 ≤ 60000) : ∀ (n : Nat) (Bc : SS) (Pc : SS) (Mc : SS) (Tc : SS) (Kc : SS) (Uc : SS) (Lc : SL) (Wc : SS) (Oc : SL) (Nc : Nat) (v10 : Int32), f_L_law_74 xs sL n Bc Pc Mc Tc Kc Uc Lc Wc Oc Nc v10 = some u → zW p l e room_R s m #[.ref b] below meth c 22 D (zAq s) (zpad s.heap Nc) cl sl (lw_Z2 below s u) (zwX7 cI cJ cZ ab a5 a3 a6 a1 a0 Bc Pc Mc Tc Kc Uc Lc ++ zwW cI cJ cZ aw Wc Oc) [(0, .ref b), (1, .ref ab), (2, .ref (aw 0)), (3, .ref (aw 1)), (4, .ref (aw 2)), (5, .ref (aw 3)), (6, .ref (aw 4)), (7, .ref (aw 5)), (8, .ref (aw 6)), (9, .ref (aw 7)), (10, .int v10)] 74 [] := by
  intro n
  induction n with
  | zero => intro Bc Pc Mc Tc Kc Uc Lc Wc Oc Nc v10 hF; exact absurd (show none = some u from hF) (fun q => nomatch q)
  | succ n ih =>
    intro Bc Pc Mc Tc Kc Uc Lc Wc Oc Nc v10 hF
    have hf0 : cl + 0 ≤ room_R.cells ∧ sl + 0 ≤ room_R.slots := ⟨by show _ ≤ 8000; omega, by show _ ≤ 60000; omega⟩
    have hf1 : cl + 1 ≤ room_R.cells ∧ sl + 6 ≤ room_R.slots := ⟨by show _ ≤ 8000; omega, by show _ ≤ 60000; omega⟩
    have hf2 : cl + 2 ≤ room_R.cells ∧ sl + 12 ≤ room_R.slots := ⟨by show _ ≤ 8000; omega, by show _ ≤ 60000; omega⟩
    have hf3 : cl + 3 ≤ room_R.cells ∧ sl + 18 ≤ room_R.slots := ⟨by show _ ≤ 8000; omega, by show _ ≤ 60000; omega⟩
    have hf4 : cl + 4 ≤ room_R.cells ∧ sl + 24 ≤ room_R.slots := ⟨by show _ ≤ 8000; omega, by show _ ≤ 60000; omega⟩
    have hf5 : cl + 5 ≤ room_R.cells ∧ sl + 30 ≤ room_R.slots := ⟨by show _ ≤ 8000; omega, by show _ ≤ 60000; omega⟩
    have hf6 : cl + 6 ≤ room_R.cells ∧ sl + 36 ≤ room_R.slots := ⟨by show _ ≤ 8000; omega, by show _ ≤ 60000; omega⟩
    have hbA : ¬ zAq s b := Nat.not_le.mpr hbl
    refine z_iload (zC_pad Nc C) dL_law_74 10 rfl ?_
    refine z_iconst (v := 3) (zC_pad Nc C) dL_law_76 (by decide) ?_
    refine z_icmp_ge (tgt := 97) (zC_pad Nc C) dL_law_77 (by decide) (fun c5 => ?_) (fun c5 => ?_)
    · have hF := zif hF c5
      refine z_iconst (v := 0) (zC_pad Nc C) dL_law_97 (by decide) ?_
      refine z_istore (lv' := [(10, .int 0), (0, .ref b), (1, .ref ab), (2, .ref (aw 0)), (3, .ref (aw 1)), (4, .ref (aw 2)), (5, .ref (aw 3)), (6, .ref (aw 4)), (7, .ref (aw 5)), (8, .ref (aw 6)), (9, .ref (aw 7))]) (zC_pad Nc C) dL_law_98 (by decide) rfl ?_
      exact z_sub (zC_pad Nc C) [1, 2, 3, 4, 5, 6, 7, 8, 9, 10, 0] rfl (c_L_law_j100 l hl D cI cJ cZ ab a5 a3 a6 a1 a0 aw u C XE XN hX hbl 600 cl sl (by omega) (by omega) Bc Pc Mc Tc Kc Uc Lc Wc Oc Nc 0 hF)
    · have hF := zelse hF c5
      refine z_aload_n (zC_pad Nc C) dL_law_80 rfl 1 rfl ?_
      obtain ⟨r240, er240, hF⟩ := zok_some hF
      refine z_gcallV_R (n := 0) (As := []) (ws' := (zwX7 cI cJ cZ ab a5 a3 a6 a1 a0 Bc r240.2 Mc Tc Kc Uc Lc ++ zwW cI cJ cZ aw Wc Oc)) (zC_pad Nc C) C XE (zhb_p C) (c_X7_policy l hl D cI cJ cZ ab a5 a3 a6 a1 a0 Bc Pc Mc Tc Kc Uc Lc (.inr r240) er240) gL_law_X7_policy rfl (by decide +kernel) ⟨Nat.le_of_ble_eq_true rfl, Nat.le_of_ble_eq_true rfl⟩ hf0 0 rfl rfl [] (zwW cI cJ cZ aw Wc Oc) rfl rfl rfl rfl (Nat.le_of_ble_eq_true rfl) dL_law_81 ?_
      refine z_iload (zC_pad Nc C) dL_law_84 10 rfl ?_
      refine z_icmp_eq (tgt := 91) (zC_pad Nc C) dL_law_86 (by decide) (fun c241 => ?_) (fun c241 => ?_)
      · have hF := zif hF c241
        refine z_iinc (v := (v10 + 1)) (lv' := [(10, .int (v10 + 1)), (0, .ref b), (1, .ref ab), (2, .ref (aw 0)), (3, .ref (aw 1)), (4, .ref (aw 2)), (5, .ref (aw 3)), (6, .ref (aw 4)), (7, .ref (aw 5)), (8, .ref (aw 6)), (9, .ref (aw 7))]) (zC_pad Nc C) dL_law_91 10 rfl rfl (by decide) rfl ?_
        refine z_goto (tgt := 74) (zC_pad Nc C) dL_law_94 (by decide) ?_
        exact z_sub (zC_pad Nc C) [1, 2, 3, 4, 5, 6, 7, 8, 9, 10, 0] rfl (ih Bc r240.2 Mc Tc Kc Uc Lc Wc Oc Nc (v10 + 1) hF)
      · have hF := zelse hF c241
        refine z_iconst (v := 0) (zC_pad Nc C) dL_law_89 (by decide) ?_
        exact absurd hF (fun q => nomatch q)
