set_option maxHeartbeats 4000000 in
set_option maxRecDepth 100000 in
theorem c_L_law_j52 (l : Launch) (hl : l.stackTraces = false) (D : va_G) (cI cJ cZ : ClassId) (ab : Nat) (a5 a3 a6 a1 a0 aw : Nat → Nat) (u : Nat) {p : Program} {e : Env} {s : State} {m : MethodId} {below : List Frame} {meth : Method} {c : Code} {b sL : Nat} {xs : Nat → Int32} (C : zC p s m #[.ref b] meth c cL_law 22 ret RL wsL_law D (zTy cI cJ cZ) (zAq s) s.heap) (XE : zE (zAq s) s s.heap) (XN : zN s) (hX : va_X b sL xs s s.heap) (hbl : b < s.heap.size) (cl sl : Nat) (hc : cl + 4000 ≤ 8000) (hs : sl + 30000 ≤ 60000) (Bc : SS) (Pc : SS) (Mc : SS) (Tc : SS) (Kc : SS) (Uc : SS) (Lc : SL) (Wc : SS) (Oc : SL) (Nc : Nat) (hF : f_L_law_52 xs sL Bc Pc Mc Tc Kc Uc Lc Wc Oc Nc = some u) : zW p l e room_R s m #[.ref b] below meth c 22 D (zAq s) (zpad s.heap Nc) cl sl (lw_Z2 below s u) (zwX7 cI cJ cZ ab a5 a3 a6 a1 a0 Bc Pc Mc Tc Kc Uc Lc ++ zwW cI cJ cZ aw Wc Oc) [(0, .ref b), (1, .ref ab), (2, .ref (aw 0)), (3, .ref (aw 1)), (4, .ref (aw 2)), (5, .ref (aw 3)), (6, .ref (aw 4)), (7, .ref (aw 5)), (8, .ref (aw 6)), (9, .ref (aw 7))] 52 [] := by
  unfold f_L_law_52 at hF
  have hf0 : cl + 0 ≤ room_R.cells ∧ sl + 0 ≤ room_R.slots := ⟨by show _ ≤ 8000; omega, by show _ ≤ 60000; omega⟩
  have hf1 : cl + 1 ≤ room_R.cells ∧ sl + 6 ≤ room_R.slots := ⟨by show _ ≤ 8000; omega, by show _ ≤ 60000; omega⟩
  have hf2 : cl + 2 ≤ room_R.cells ∧ sl + 12 ≤ room_R.slots := ⟨by show _ ≤ 8000; omega, by show _ ≤ 60000; omega⟩
  have hf3 : cl + 3 ≤ room_R.cells ∧ sl + 18 ≤ room_R.slots := ⟨by show _ ≤ 8000; omega, by show _ ≤ 60000; omega⟩
  have hf4 : cl + 4 ≤ room_R.cells ∧ sl + 24 ≤ room_R.slots := ⟨by show _ ≤ 8000; omega, by show _ ≤ 60000; omega⟩
  have hf5 : cl + 5 ≤ room_R.cells ∧ sl + 30 ≤ room_R.slots := ⟨by show _ ≤ 8000; omega, by show _ ≤ 60000; omega⟩
  have hf6 : cl + 6 ≤ room_R.cells ∧ sl + 36 ≤ room_R.slots := ⟨by show _ ≤ 8000; omega, by show _ ≤ 60000; omega⟩
  have hbA : ¬ zAq s b := Nat.not_le.mpr hbl
  refine z_aload (zC_pad Nc C) dL_law_52 9 rfl ?_
  refine z_iconst (v := 0) (zC_pad Nc C) dL_law_54 (by decide) ?_
  refine z_ldc2 (v := 17) (zC_pad Nc C) kL_law_144 dL_law_55 ?_
  obtain ⟨g1, hF⟩ := zix_some hF
  refine z_last (ws' := (zwX7 cI cJ cZ ab a5 a3 a6 a1 a0 Bc Pc Mc Tc Kc Uc Lc ++ zwW cI cJ cZ aw Wc (vp_updL Oc (0 : Int32).toNatClampNeg 17))) (zC_pad Nc C) g1 37 rfl rfl dL_law_58 (zq_W_7 cI cJ cZ ab a5 a3 a6 a1 a0 Bc Pc Mc Tc Kc Uc Lc aw Wc Oc ((0 : Int32).toNatClampNeg) 17) ?_
  refine z_aload_n (zC_pad Nc C) dL_law_59 rfl 2 rfl ?_
  refine z_iconst (v := 3) (zC_pad Nc C) dL_law_60 (by decide) ?_
  refine z_iconst (v := 1) (zC_pad Nc C) dL_law_61 (by decide) ?_
  obtain ⟨g2, hF⟩ := zix_some hF
  refine z_iast (ws' := (zwX7 cI cJ cZ ab a5 a3 a6 a1 a0 Bc Pc Mc Tc Kc Uc Lc ++ zwW cI cJ cZ aw (za Wc 0 3 1) (vp_updL Oc (0 : Int32).toNatClampNeg 17))) (zC_pad Nc C) g2 30 rfl rfl dL_law_62 (za_row Wc 0 3 1) (zq_W_0 cI cJ cZ ab a5 a3 a6 a1 a0 Bc Pc Mc Tc Kc Uc Lc aw Wc (vp_updL Oc (0 : Int32).toNatClampNeg 17) 3 1) ?_
  refine z_aload_n (zC_pad Nc C) dL_law_63 rfl 3 rfl ?_
  refine z_iconst (v := 0) (zC_pad Nc C) dL_law_64 (by decide) ?_
  refine z_iconst (v := (-1)) (zC_pad Nc C) dL_law_65 (by decide) ?_
  obtain ⟨g3, hF⟩ := zix_some hF
  refine z_iast (ws' := (zwX7 cI cJ cZ ab a5 a3 a6 a1 a0 Bc Pc Mc Tc Kc Uc Lc ++ zwW cI cJ cZ aw (za (za Wc 0 3 1) 1 0 (-1)) (vp_updL Oc (0 : Int32).toNatClampNeg 17))) (zC_pad Nc C) g3 31 rfl rfl dL_law_66 (za_row (za Wc 0 3 1) 1 0 (-1)) (zq_W_1 cI cJ cZ ab a5 a3 a6 a1 a0 Bc Pc Mc Tc Kc Uc Lc aw (za Wc 0 3 1) (vp_updL Oc (0 : Int32).toNatClampNeg 17) 0 (-1)) ?_
  refine z_aload_n (zC_pad Nc C) dL_law_67 rfl 3 rfl ?_
  refine z_iconst (v := 4) (zC_pad Nc C) dL_law_68 (by decide) ?_
  refine z_iconst (v := (-1)) (zC_pad Nc C) dL_law_69 (by decide) ?_
  obtain ⟨g4, hF⟩ := zix_some hF
  refine z_iast (ws' := (zwX7 cI cJ cZ ab a5 a3 a6 a1 a0 Bc Pc Mc Tc Kc Uc Lc ++ zwW cI cJ cZ aw (za (za (za Wc 0 3 1) 1 0 (-1)) 1 4 (-1)) (vp_updL Oc (0 : Int32).toNatClampNeg 17))) (zC_pad Nc C) g4 31 rfl rfl dL_law_70 (za_row (za (za Wc 0 3 1) 1 0 (-1)) 1 4 (-1)) (zq_W_1 cI cJ cZ ab a5 a3 a6 a1 a0 Bc Pc Mc Tc Kc Uc Lc aw (za (za Wc 0 3 1) 1 0 (-1)) (vp_updL Oc (0 : Int32).toNatClampNeg 17) 4 (-1)) ?_
  refine z_iconst (v := 0) (zC_pad Nc C) dL_law_71 (by decide) ?_
  refine z_istore (lv' := [(10, .int 0), (0, .ref b), (1, .ref ab), (2, .ref (aw 0)), (3, .ref (aw 1)), (4, .ref (aw 2)), (5, .ref (aw 3)), (6, .ref (aw 4)), (7, .ref (aw 5)), (8, .ref (aw 6)), (9, .ref (aw 7))]) (zC_pad Nc C) dL_law_72 (by decide) rfl ?_
  exact z_sub (zC_pad Nc C) [1, 2, 3, 4, 5, 6, 7, 8, 9, 10, 0] rfl (c_L_law_j74 l hl D cI cJ cZ ab a5 a3 a6 a1 a0 aw u C XE XN hX hbl cl sl (by omega) (by omega) 600 Bc Pc Mc Tc Kc Uc Lc (za (za (za Wc 0 3 1) 1 0 (-1)) 1 4 (-1)) (vp_updL Oc (0 : Int32).toNatClampNeg 17) Nc 0 hF)
