def room_R : Room := { frames := 13, cells := 8000, slots := 60000, locals := 498 }
abbrev zAq (s : State) : Nat → Prop := fun q => s.heap.size ≤ q
/-- the law's end with 1, and the heap has grown by u cells at least -/
def lw_Z2 (below : List Frame) (s : State) (u : Nat) : State → Prop := fun t => ∃ o, t.status = .running ∧ Ended t below o ∧ (o = .returned (some (.int 1)) ∧ s.heap.size + u ≤ t.heap.size)
theorem lw_ret2 {p : Program} {l : Launch} {e : Env} {R : Room} {s : State} {m : MethodId} {below : List Frame} {meth : Method} {c : Code} {b u : Nat} {cells slots : Nat} {locs : List Loc} (hx : p.tables.exec = Jvm.exec) (hb : c.code = code) (hr : meth.sig.returnType = ret) (hlocks : meth.locks = false) {pc : Nat} {H : Heap} {ls : Array Slot} (hu : s.heap.size + u ≤ H.size) (hdg : decode code pc = .ok (.ireturn, 1)) : W p l e R s m #[Value.ref b] below meth c H locs cells slots (lw_Z2 below s u) (F0 m pc ls [.int 1]) := by
  intro T hT X
  obtain ⟨fs, hret, hrun, hended, hW, hframe⟩ := X.leave (v := some (.int 1)) (hlocks := hlocks) (fun h => by rw [hr] at h; cases h)
  have hmeth' : T.vm.method? m = some meth := X.method'
  refine ⟨T.setFrames fs, ?_, .returned (some (.int 1)), hrun, hended, rfl, by rw [show (T.setFrames fs).heap = T.heap from rfl, hT]; exact hu⟩
  jvm_step X.here [X.here.top, hx, hb, hdg, hmeth', hr, ret, narrow_b1]
  (try refine ⟨rfl, ?_⟩); (try refine ⟨rfl, ?_⟩)
  first | (intro acts; rw [hret _ acts rfl rfl rfl]) | rw [hret _ _ rfl rfl rfl]
  exact Steps.refl _
theorem z_one2 {p : Program} {l : Launch} {e : Env} {s : State} {m : MethodId} {below : List Frame} {meth : Method} {c : Code} {cells slots b u pc : Nat} {R : Room} {D : va_G} {tys : List (ClassId × FieldType)} {lv : List (Nat × Value)} {ws : va_W} {own : String} {Ts : List Cond} (C : zC p s m #[.ref b] meth c cL_law 22 ret own Ts D tys (zAq s) (zpad s.heap u)) (hd : decode cL_law pc = .ok (.ireturn, 1)) :
    zW p l e R s m #[.ref b] below meth c 22 D (zAq s) (zpad s.heap u) cells slots (lw_Z2 below s u) ws lv pc [.int 1] := fun H locs ls h1 h2 h3 h4 =>
  lw_ret2 C.1 C.2.1 C.2.2.2.2.2.2.2.2 C.2.2.2.2.2.2.2.1 (zpad_U h3).2 hd
theorem kL_law_144 : Cond.constantLong RL 144 (17) ∈ wsL_law := by decide +kernel
set_option maxHeartbeats 4000000 in
set_option maxRecDepth 100000 in
theorem c_L_law_j1930 (l : Launch) (hl : l.stackTraces = false) (D : va_G) (cI cJ cZ : ClassId) (ab : Nat) (a5 a3 a6 a1 a0 aw : Nat → Nat) (u : Nat) {p : Program} {e : Env} {s : State} {m : MethodId} {below : List Frame} {meth : Method} {c : Code} {b sL : Nat} {xs : Nat → Int32} (C : zC p s m #[.ref b] meth c cL_law 22 ret RL wsL_law D (zTy cI cJ cZ) (zAq s) s.heap) (XE : zE (zAq s) s s.heap) (XN : zN s) (hX : va_X b sL xs s s.heap) (hbl : b < s.heap.size) (cl sl : Nat) (hc : cl + 6 ≤ 8000) (hs : sl + 36 ≤ 60000) (k100 : SS → SS → SS → SS → SS → SS → SL → SS → SL → Nat → Int32 → Option Nat) (hk100 : ∀ (Bc : SS) (Pc : SS) (Mc : SS) (Tc : SS) (Kc : SS) (Uc : SS) (Lc : SL) (Wc : SS) (Oc : SL) (Nc : Nat) (v10 : Int32), k100 Bc Pc Mc Tc Kc Uc Lc Wc Oc Nc v10 = some u → zW p l e room_R s m #[.ref b] below meth c 22 D (zAq s) (zpad s.heap Nc) (cl + 6) (sl + 36) (lw_Z2 below s u) (zwX7 cI cJ cZ ab a5 a3 a6 a1 a0 Bc Pc Mc Tc Kc Uc Lc ++ zwW cI cJ cZ aw Wc Oc) [(0, .ref b), (1, .ref ab), (2, .ref (aw 0)), (3, .ref (aw 1)), (4, .ref (aw 2)), (5, .ref (aw 3)), (6, .ref (aw 4)), (7, .ref (aw 5)), (8, .ref (aw 6)), (9, .ref (aw 7)), (10, .int v10)] 100 []) (Bc : SS) (Pc : SS) (Mc : SS) (Tc : SS) (Kc : SS) (Uc : SS) (Lc : SL) (Wc : SS) (Oc : SL) (Nc : Nat) (v10 : Int32) (v11 : Int32) (hF : f_L_law_1930 xs sL k100 Bc Pc Mc Tc Kc Uc Lc Wc Oc Nc v10 v11 = some u) : zW p l e room_R s m #[.ref b] below meth c 22 D (zAq s) (zpad s.heap Nc) (cl + 3) (sl + 18) (lw_Z2 below s u) (zwX7 cI cJ cZ ab a5 a3 a6 a1 a0 Bc Pc Mc Tc Kc Uc Lc ++ zwW cI cJ cZ aw Wc Oc) [(0, .ref b), (1, .ref ab), (2, .ref (aw 0)), (3, .ref (aw 1)), (4, .ref (aw 2)), (5, .ref (aw 3)), (6, .ref (aw 4)), (7, .ref (aw 5)), (8, .ref (aw 6)), (9, .ref (aw 7)), (10, .int v10), (11, .int v11)] 1930 [] := by
  unfold f_L_law_1930 at hF
  have hf0 : cl + 0 ≤ room_R.cells ∧ sl + 0 ≤ room_R.slots := ⟨by show _ ≤ 8000; omega, by show _ ≤ 60000; omega⟩
  have hf1 : cl + 1 ≤ room_R.cells ∧ sl + 6 ≤ room_R.slots := ⟨by show _ ≤ 8000; omega, by show _ ≤ 60000; omega⟩
  have hf2 : cl + 2 ≤ room_R.cells ∧ sl + 12 ≤ room_R.slots := ⟨by show _ ≤ 8000; omega, by show _ ≤ 60000; omega⟩
  have hf3 : cl + 3 ≤ room_R.cells ∧ sl + 18 ≤ room_R.slots := ⟨by show _ ≤ 8000; omega, by show _ ≤ 60000; omega⟩
  have hf4 : cl + 4 ≤ room_R.cells ∧ sl + 24 ≤ room_R.slots := ⟨by show _ ≤ 8000; omega, by show _ ≤ 60000; omega⟩
  have hf5 : cl + 5 ≤ room_R.cells ∧ sl + 30 ≤ room_R.slots := ⟨by show _ ≤ 8000; omega, by show _ ≤ 60000; omega⟩
  have hf6 : cl + 6 ≤ room_R.cells ∧ sl + 36 ≤ room_R.slots := ⟨by show _ ≤ 8000; omega, by show _ ≤ 60000; omega⟩
  have hbA : ¬ zAq s b := Nat.not_le.mpr hbl
  refine z_aload_n (zC_pad Nc C) dL_law_1930 rfl 1 rfl ?_
  refine z_iload (zC_pad Nc C) dL_law_1931 11 rfl ?_
  refine z_iconst (v := 5) (zC_pad Nc C) dL_law_1933 (by decide) ?_
  refine z_ishr (zC_pad Nc C) dL_law_1934 ?_
  refine z_aload_n (zC_pad Nc C) dL_law_1935 rfl 2 rfl ?_
  refine z_aload_n (zC_pad Nc C) dL_law_1936 rfl 3 rfl ?_
  refine z_aload (zC_pad Nc C) dL_law_1937 4 rfl ?_
  obtain ⟨r35, er35, hF⟩ := zbd hF
  refine z_gcallS (N := Nc) (n := 5) (As := [.ref ab, .int (v11 >>> (5 &&& 31)), .ref (aw 0), .ref (aw 1), .ref (aw 2)]) (ws' := (zwX7 cI cJ cZ ab a5 a3 a6 a1 a0 Bc Pc Mc r35.2.1 r35.2.2.1 r35.2.2.2.1 r35.2.2.2.2 ++ zwW cI cJ cZ aw Wc Oc)) C XE XN (c_L_same l hl D cI cJ cZ ab a5 a3 a6 a1 a0 aw Bc Pc Mc Tc Kc Uc Wc Lc Oc (v11 >>> (5 &&& 31)) r35 er35) gL_law_L_same rfl (by decide +kernel) ⟨Nat.le_of_ble_eq_true rfl, Nat.le_of_ble_eq_true rfl⟩ hf6 [] [] zAs7 zAs8 rfl rfl (Nat.le_of_ble_eq_true rfl) dL_law_1939 ?_
  refine z_if_ne (tgt := 1947) (zC_pad (Nc + (if r35.1 = 0 then 0 else 3)) C) dL_law_1942 (by decide) (fun c36 => ?_) (fun c36 => ?_)
  · have hF := zelse hF c36
    refine z_iinc (v := (v10 + 1)) (lv' := [(10, .int (v10 + 1)), (0, .ref b), (1, .ref ab), (2, .ref (aw 0)), (3, .ref (aw 1)), (4, .ref (aw 2)), (5, .ref (aw 3)), (6, .ref (aw 4)), (7, .ref (aw 5)), (8, .ref (aw 6)), (9, .ref (aw 7)), (11, .int v11)]) (zC_pad (Nc + (if r35.1 = 0 then 0 else 3)) C) dL_law_1947 10 rfl rfl (by decide) rfl ?_
    refine z_goto (tgt := 100) (zC_pad (Nc + (if r35.1 = 0 then 0 else 3)) C) dL_law_1950 (by decide) ?_
    refine z_iwiden (k := cl + 6) (n := sl + 36) (by omega) (by omega) ?_
    exact z_sub (zC_pad (Nc + (if r35.1 = 0 then 0 else 3)) C) [1, 2, 3, 4, 5, 6, 7, 8, 9, 10, 0] rfl (hk100 Bc Pc Mc r35.2.1 r35.2.2.1 r35.2.2.2.1 r35.2.2.2.2 Wc Oc (Nc + (if r35.1 = 0 then 0 else 3)) (v10 + 1) hF)
  · have hF := zif hF c36
    refine z_iconst (v := 0) (zC_pad (Nc + (if r35.1 = 0 then 0 else 3)) C) dL_law_1945 (by decide) ?_
    exact absurd hF (fun q => nomatch q)
set_option maxHeartbeats 4000000 in
set_option maxRecDepth 100000 in
theorem c_L_law_j1866 (l : Launch) (hl : l.stackTraces = false) (D : va_G) (cI cJ cZ : ClassId) (ab : Nat) (a5 a3 a6 a1 a0 aw : Nat → Nat) (u : Nat) {p : Program} {e : Env} {s : State} {m : MethodId} {below : List Frame} {meth : Method} {c : Code} {b sL : Nat} {xs : Nat → Int32} (C : zC p s m #[.ref b] meth c cL_law 22 ret RL wsL_law D (zTy cI cJ cZ) (zAq s) s.heap) (XE : zE (zAq s) s s.heap) (XN : zN s) (hX : va_X b sL xs s s.heap) (hbl : b < s.heap.size) (cl sl : Nat) (hc : cl + 6 ≤ 8000) (hs : sl + 36 ≤ 60000) (k100 : SS → SS → SS → SS → SS → SS → SL → SS → SL → Nat → Int32 → Option Nat) (hk100 : ∀ (Bc : SS) (Pc : SS) (Mc : SS) (Tc : SS) (Kc : SS) (Uc : SS) (Lc : SL) (Wc : SS) (Oc : SL) (Nc : Nat) (v10 : Int32), k100 Bc Pc Mc Tc Kc Uc Lc Wc Oc Nc v10 = some u → zW p l e room_R s m #[.ref b] below meth c 22 D (zAq s) (zpad s.heap Nc) (cl + 6) (sl + 36) (lw_Z2 below s u) (zwX7 cI cJ cZ ab a5 a3 a6 a1 a0 Bc Pc Mc Tc Kc Uc Lc ++ zwW cI cJ cZ aw Wc Oc) [(0, .ref b), (1, .ref ab), (2, .ref (aw 0)), (3, .ref (aw 1)), (4, .ref (aw 2)), (5, .ref (aw 3)), (6, .ref (aw 4)), (7, .ref (aw 5)), (8, .ref (aw 6)), (9, .ref (aw 7)), (10, .int v10)] 100 []) (Bc : SS) (Pc : SS) (Mc : SS) (Tc : SS) (Kc : SS) (Uc : SS) (Lc : SL) (Wc : SS) (Oc : SL) (Nc : Nat) (v10 : Int32) (v11 : Int32) (v16 : Int32) (s0 : Int32) (s1 : Int32) (s2 : Int32) (hF : f_L_law_1866 xs sL k100 Bc Pc Mc Tc Kc Uc Lc Wc Oc Nc v10 v11 v16 s0 s1 s2 = some u) : zW p l e room_R s m #[.ref b] below meth c 22 D (zAq s) (zpad s.heap Nc) (cl + 2) (sl + 12) (lw_Z2 below s u) (zwX7 cI cJ cZ ab a5 a3 a6 a1 a0 Bc Pc Mc Tc Kc Uc Lc ++ zwW cI cJ cZ aw Wc Oc) [(0, .ref b), (1, .ref ab), (2, .ref (aw 0)), (3, .ref (aw 1)), (4, .ref (aw 2)), (5, .ref (aw 3)), (6, .ref (aw 4)), (7, .ref (aw 5)), (8, .ref (aw 6)), (9, .ref (aw 7)), (10, .int v10), (11, .int v11), (16, .int v16)] 1866 [.int s2, .int s1, .int s0] := by
  unfold f_L_law_1866 at hF
  have hf0 : cl + 0 ≤ room_R.cells ∧ sl + 0 ≤ room_R.slots := ⟨by show _ ≤ 8000; omega, by show _ ≤ 60000; omega⟩
  have hf1 : cl + 1 ≤ room_R.cells ∧ sl + 6 ≤ room_R.slots := ⟨by show _ ≤ 8000; omega, by show _ ≤ 60000; omega⟩
  have hf2 : cl + 2 ≤ room_R.cells ∧ sl + 12 ≤ room_R.slots := ⟨by show _ ≤ 8000; omega, by show _ ≤ 60000; omega⟩
  have hf3 : cl + 3 ≤ room_R.cells ∧ sl + 18 ≤ room_R.slots := ⟨by show _ ≤ 8000; omega, by show _ ≤ 60000; omega⟩
  have hf4 : cl + 4 ≤ room_R.cells ∧ sl + 24 ≤ room_R.slots := ⟨by show _ ≤ 8000; omega, by show _ ≤ 60000; omega⟩
  have hf5 : cl + 5 ≤ room_R.cells ∧ sl + 30 ≤ room_R.slots := ⟨by show _ ≤ 8000; omega, by show _ ≤ 60000; omega⟩
  have hf6 : cl + 6 ≤ room_R.cells ∧ sl + 36 ≤ room_R.slots := ⟨by show _ ≤ 8000; omega, by show _ ≤ 60000; omega⟩
  have hbA : ¬ zAq s b := Nat.not_le.mpr hbl
  obtain ⟨r27, er27, hF⟩ := zbd hF
  refine z_callS (n := 2) (As := [.int s1, .int s2]) (zC_pad Nc C) (c_L_low l D cI cJ cZ s1 s2 r27 er27) gL_law_L_low rfl rfl rfl (by decide +kernel) ⟨Nat.le_of_ble_eq_true rfl, Nat.le_of_ble_eq_true rfl⟩ hf2 rfl rfl (Nat.le_of_ble_eq_true rfl) dL_law_1866 ?_
  refine z_iadd (zC_pad Nc C) dL_law_1869 ?_
  refine z_istore (lv' := [(17, .int (s0 + r27)), (0, .ref b), (1, .ref ab), (2, .ref (aw 0)), (3, .ref (aw 1)), (4, .ref (aw 2)), (5, .ref (aw 3)), (6, .ref (aw 4)), (7, .ref (aw 5)), (8, .ref (aw 6)), (9, .ref (aw 7)), (10, .int v10), (11, .int v11), (16, .int v16)]) (zC_pad Nc C) dL_law_1870 (by decide) rfl ?_
  refine z_aload_n (zC_pad Nc C) dL_law_1872 rfl 3 rfl ?_
  refine z_iconst (v := 0) (zC_pad Nc C) dL_law_1873 (by decide) ?_
  refine z_dup2 (zC_pad Nc C) dL_law_1874 rfl rfl ?_
  obtain ⟨g28, hF⟩ := zix_some hF
  refine z_iald (v := ((Wc 0) (0 : Int32).toNatClampNeg)) (zC_pad Nc C) g28 30 rfl rfl rfl dL_law_1875 ?_
  refine z_iload (zC_pad Nc C) dL_law_1876 0 rfl ?_
  refine z_iadd (zC_pad Nc C) dL_law_1878 ?_
  obtain ⟨g29, hF⟩ := zix_some hF
  refine z_iast (ws' := (zwX7 cI cJ cZ ab a5 a3 a6 a1 a0 Bc Pc Mc Tc Kc Uc Lc ++ zwW cI cJ cZ aw (za Wc 0 0 (((Wc 0) (0 : Int32).toNatClampNeg) + (s0 + r27))) Oc)) (zC_pad Nc C) g29 30 rfl rfl dL_law_1879 (za_row Wc 0 0 (((Wc 0) (0 : Int32).toNatClampNeg) + (s0 + r27))) (zq_W_0 cI cJ cZ ab a5 a3 a6 a1 a0 Bc Pc Mc Tc Kc Uc Lc aw Wc Oc 0 (((Wc 0) (0 : Int32).toNatClampNeg) + (s0 + r27))) ?_
  refine z_iload (zC_pad Nc C) dL_law_1880 13 rfl ?_
  refine z_aload_n (zC_pad Nc C) dL_law_1882 rfl 3 rfl ?_
  refine z_aload_n (zC_pad Nc C) dL_law_1883 rfl 4 rfl ?_
  obtain ⟨r30, er30, hF⟩ := zbd hF
  refine z_callSW (n := 2) (As := [.ref (aw 0), .ref (aw 1)]) (ws' := (zwX7 cI cJ cZ ab a5 a3 a6 a1 a0 Bc Pc Mc Tc Kc Uc Lc ++ zwW cI cJ cZ aw (za Wc 0 0 (((Wc 0) (0 : Int32).toNatClampNeg) + (s0 + r27))) Oc)) (zC_pad Nc C) (c_L_living l D cI cJ cZ aw (za Wc 0 0 (((Wc 0) (0 : Int32).toNatClampNeg) + (s0 + r27))) Oc r30 er30) gL_law_L_living rfl rfl rfl (by decide +kernel) ⟨Nat.le_of_ble_eq_true rfl, Nat.le_of_ble_eq_true rfl⟩ hf2 (zwX7 cI cJ cZ ab a5 a3 a6 a1 a0 Bc Pc Mc Tc Kc Uc Lc) [] zAs5 zAs6 rfl rfl (Nat.le_of_ble_eq_true rfl) dL_law_1884 ?_
  refine z_isub (zC_pad Nc C) dL_law_1887 ?_
  refine z_aload_n (zC_pad Nc C) dL_law_1888 rfl 3 rfl ?_
  refine z_aload_n (zC_pad Nc C) dL_law_1889 rfl 4 rfl ?_
  refine z_aload (zC_pad Nc C) dL_law_1890 5 rfl ?_
  obtain ⟨r31, er31, hF⟩ := zbd hF
  refine z_callSW (n := 3) (As := [.ref (aw 0), .ref (aw 1), .ref (aw 2)]) (ws' := (zwX7 cI cJ cZ ab a5 a3 a6 a1 a0 Bc Pc Mc Tc Kc Uc Lc ++ zwW cI cJ cZ aw (za Wc 0 0 (((Wc 0) (0 : Int32).toNatClampNeg) + (s0 + r27))) Oc)) (zC_pad Nc C) (c_L_working l D cI cJ cZ aw (za Wc 0 0 (((Wc 0) (0 : Int32).toNatClampNeg) + (s0 + r27))) Oc r31 er31) gL_law_L_working rfl rfl rfl (by decide +kernel) ⟨Nat.le_of_ble_eq_true rfl, Nat.le_of_ble_eq_true rfl⟩ hf2 (zwX7 cI cJ cZ ab a5 a3 a6 a1 a0 Bc Pc Mc Tc Kc Uc Lc) [] zAs5 zAs6 rfl rfl (Nat.le_of_ble_eq_true rfl) dL_law_1892 ?_
  refine z_isub (zC_pad Nc C) dL_law_1895 ?_
  refine z_istore (lv' := [(18, .int ((v16 - r30) - r31)), (17, .int (s0 + r27)), (0, .ref b), (1, .ref ab), (2, .ref (aw 0)), (3, .ref (aw 1)), (4, .ref (aw 2)), (5, .ref (aw 3)), (6, .ref (aw 4)), (7, .ref (aw 5)), (8, .ref (aw 6)), (9, .ref (aw 7)), (10, .int v10), (11, .int v11), (16, .int v16)]) (zC_pad Nc C) dL_law_1896 (by decide) rfl ?_
  refine z_aload_n (zC_pad Nc C) dL_law_1898 rfl 3 rfl ?_
  refine z_iload (zC_pad Nc C) dL_law_1899 1 rfl ?_
  obtain ⟨r32, er32, hF⟩ := zok_some hF
  refine z_gcallV_R (n := 1) (As := [.int (s0 + r27)]) (ws' := (zwX7 cI cJ cZ ab a5 a3 a6 a1 a0 r32.2.1 Pc Mc r32.2.2.1 r32.2.2.2.1 r32.2.2.2.2.1 r32.2.2.2.2.2 ++ zwW cI cJ cZ aw (za Wc 0 0 (((Wc 0) (0 : Int32).toNatClampNeg) + (s0 + r27))) Oc)) (zC_pad Nc C) C XE (zhb_p C) (c_X7_pass l hl D cI cJ cZ ab a5 a3 a6 a1 a0 Bc Pc Mc Tc Kc Uc Lc (s0 + r27) (.inr r32) er32) gL_law_X7_pass rfl (by decide +kernel) ⟨Nat.le_of_ble_eq_true rfl, Nat.le_of_ble_eq_true rfl⟩ hf2 0 rfl rfl [] (zwW cI cJ cZ aw (za Wc 0 0 (((Wc 0) (0 : Int32).toNatClampNeg) + (s0 + r27))) Oc) rfl rfl rfl rfl (Nat.le_of_ble_eq_true rfl) dL_law_1901 ?_
  refine z_iload (zC_pad Nc C) dL_law_1904 0 rfl ?_
  refine z_icmp_ne (tgt := 1928) (zC_pad Nc C) dL_law_1906 (by decide) (fun c33 => ?_) (fun c33 => ?_)
  · have hF := zelse hF c33
    refine z_iconst (v := 0) (zC_pad Nc C) dL_law_1928 (by decide) ?_
    exact absurd hF (fun q => nomatch q)
  · have hF := zif hF c33
    refine z_iload (zC_pad Nc C) dL_law_1909 0 rfl ?_
    refine z_if_le (tgt := 1930) (zC_pad Nc C) dL_law_1911 (by decide) (fun c34 => ?_) (fun c34 => ?_)
    · have hF := zif hF c34
      refine z_iwiden (k := cl + 3) (n := sl + 18) (by omega) (by omega) ?_
      exact z_sub (zC_pad Nc C) [2, 3, 4, 5, 6, 7, 8, 9, 10, 11, 12, 13] rfl (c_L_law_j1930 l hl D cI cJ cZ ab a5 a3 a6 a1 a0 aw u C XE XN hX hbl cl sl (by omega) (by omega) k100 hk100 r32.2.1 Pc Mc r32.2.2.1 r32.2.2.2.1 r32.2.2.2.2.1 r32.2.2.2.2.2 (za Wc 0 0 (((Wc 0) (0 : Int32).toNatClampNeg) + (s0 + r27))) Oc Nc v10 v11 hF)
    · have hF := zelse hF c34
      refine z_aload_n (zC_pad Nc C) dL_law_1914 rfl 3 rfl ?_
      refine z_iconst (v := 5) (zC_pad Nc C) dL_law_1915 (by decide) ?_
      refine z_iconst (v := 0) (zC_pad Nc C) dL_law_1916 (by decide) ?_
      refine z_iload (zC_pad Nc C) dL_law_1917 0 rfl ?_
      refine z_aload_n (zC_pad Nc C) dL_law_1919 rfl 4 rfl ?_
      refine z_aload (zC_pad Nc C) dL_law_1920 11 rfl ?_
      obtain ⟨r37, er37, hF⟩ := zbd hF
      refine z_gcallS (N := Nc) (n := 6) (As := [.ref ab, .int 5, .int 0, .int ((v16 - r30) - r31), .ref (aw 0), .ref (aw 7)]) (ws' := (zwX7 cI cJ cZ ab a5 a3 a6 a1 a0 r32.2.1 Pc Mc r32.2.2.1 r32.2.2.2.1 r32.2.2.2.2.1 r32.2.2.2.2.2 ++ zwW cI cJ cZ aw r37.2.1 r37.2.2)) C XE XN (c_L_writes l hl D cI cJ cZ ab a5 a3 a6 a1 a0 aw r32.2.1 Pc Mc r32.2.2.1 r32.2.2.2.1 r32.2.2.2.2.1 (za Wc 0 0 (((Wc 0) (0 : Int32).toNatClampNeg) + (s0 + r27))) r32.2.2.2.2.2 Oc 5 0 ((v16 - r30) - r31) r37 er37) gL_law_L_writes rfl (by decide +kernel) ⟨Nat.le_of_ble_eq_true rfl, Nat.le_of_ble_eq_true rfl⟩ hf2 [] [] zAs7 zAs8 rfl rfl (Nat.le_of_ble_eq_true rfl) dL_law_1922 ?_
      rw [Nat.add_zero]
      refine z_if_ne (tgt := 1930) (zC_pad Nc C) dL_law_1925 (by decide) (fun c38 => ?_) (fun c38 => ?_)
      · have hF := zelse hF c38
        refine z_iwiden (k := cl + 3) (n := sl + 18) (by omega) (by omega) ?_
        exact z_sub (zC_pad Nc C) [2, 3, 4, 5, 6, 7, 8, 9, 10, 11, 12, 13] rfl (c_L_law_j1930 l hl D cI cJ cZ ab a5 a3 a6 a1 a0 aw u C XE XN hX hbl cl sl (by omega) (by omega) k100 hk100 r32.2.1 Pc Mc r32.2.2.1 r32.2.2.2.1 r32.2.2.2.2.1 r32.2.2.2.2.2 r37.2.1 r37.2.2 Nc v10 v11 hF)
      · have hF := zif hF c38
        refine z_iconst (v := 0) (zC_pad Nc C) dL_law_1928 (by decide) ?_
        exact absurd hF (fun q => nomatch q)
set_option maxHeartbeats 4000000 in
set_option maxRecDepth 100000 in
theorem c_L_law_j1759 (l : Launch) (hl : l.stackTraces = false) (D : va_G) (cI cJ cZ : ClassId) (ab : Nat) (a5 a3 a6 a1 a0 aw : Nat → Nat) (u : Nat) {p : Program} {e : Env} {s : State} {m : MethodId} {below : List Frame} {meth : Method} {c : Code} {b sL : Nat} {xs : Nat → Int32} (C : zC p s m #[.ref b] meth c cL_law 22 ret RL wsL_law D (zTy cI cJ cZ) (zAq s) s.heap) (XE : zE (zAq s) s s.heap) (XN : zN s) (hX : va_X b sL xs s s.heap) (hbl : b < s.heap.size) (cl sl : Nat) (hc : cl + 6 ≤ 8000) (hs : sl + 36 ≤ 60000) (k100 : SS → SS → SS → SS → SS → SS → SL → SS → SL → Nat → Int32 → Option Nat) (hk100 : ∀ (Bc : SS) (Pc : SS) (Mc : SS) (Tc : SS) (Kc : SS) (Uc : SS) (Lc : SL) (Wc : SS) (Oc : SL) (Nc : Nat) (v10 : Int32), k100 Bc Pc Mc Tc Kc Uc Lc Wc Oc Nc v10 = some u → zW p l e room_R s m #[.ref b] below meth c 22 D (zAq s) (zpad s.heap Nc) (cl + 6) (sl + 36) (lw_Z2 below s u) (zwX7 cI cJ cZ ab a5 a3 a6 a1 a0 Bc Pc Mc Tc Kc Uc Lc ++ zwW cI cJ cZ aw Wc Oc) [(0, .ref b), (1, .ref ab), (2, .ref (aw 0)), (3, .ref (aw 1)), (4, .ref (aw 2)), (5, .ref (aw 3)), (6, .ref (aw 4)), (7, .ref (aw 5)), (8, .ref (aw 6)), (9, .ref (aw 7)), (10, .int v10)] 100 []) : ∀ (n : Nat) (Bc : SS) (Pc : SS) (Mc : SS) (Tc : SS) (Kc : SS) (Uc : SS) (Lc : SL) (Wc : SS) (Oc : SL) (Nc : Nat) (v10 : Int32) (v11 : Int32) (v17 : Int32) (v18 : Int32) (v19 : Int32), f_L_law_1759 xs sL k100 n Bc Pc Mc Tc Kc Uc Lc Wc Oc Nc v10 v11 v17 v18 v19 = some u → zW p l e room_R s m #[.ref b] below meth c 22 D (zAq s) (zpad s.heap Nc) (cl + 2) (sl + 12) (lw_Z2 below s u) (zwX7 cI cJ cZ ab a5 a3 a6 a1 a0 Bc Pc Mc Tc Kc Uc Lc ++ zwW cI cJ cZ aw Wc Oc) [(0, .ref b), (1, .ref ab), (2, .ref (aw 0)), (3, .ref (aw 1)), (4, .ref (aw 2)), (5, .ref (aw 3)), (6, .ref (aw 4)), (7, .ref (aw 5)), (8, .ref (aw 6)), (9, .ref (aw 7)), (10, .int v10), (11, .int v11), (17, .int v17), (18, .int v18), (19, .int v19)] 1759 [] := by
  intro n
  induction n with
  | zero => intro Bc Pc Mc Tc Kc Uc Lc Wc Oc Nc v10 v11 v17 v18 v19 hF; exact absurd (show none = some u from hF) (fun q => nomatch q)
  | succ n ih =>
    intro Bc Pc Mc Tc Kc Uc Lc Wc Oc Nc v10 v11 v17 v18 v19 hF
    have hf0 : cl + 0 ≤ room_R.cells ∧ sl + 0 ≤ room_R.slots := ⟨by show _ ≤ 8000; omega, by show _ ≤ 60000; omega⟩
    have hf1 : cl + 1 ≤ room_R.cells ∧ sl + 6 ≤ room_R.slots := ⟨by show _ ≤ 8000; omega, by show _ ≤ 60000; omega⟩
    have hf2 : cl + 2 ≤ room_R.cells ∧ sl + 12 ≤ room_R.slots := ⟨by show _ ≤ 8000; omega, by show _ ≤ 60000; omega⟩
    have hf3 : cl + 3 ≤ room_R.cells ∧ sl + 18 ≤ room_R.slots := ⟨by show _ ≤ 8000; omega, by show _ ≤ 60000; omega⟩
    have hf4 : cl + 4 ≤ room_R.cells ∧ sl + 24 ≤ room_R.slots := ⟨by show _ ≤ 8000; omega, by show _ ≤ 60000; omega⟩
    have hf5 : cl + 5 ≤ room_R.cells ∧ sl + 30 ≤ room_R.slots := ⟨by show _ ≤ 8000; omega, by show _ ≤ 60000; omega⟩
    have hf6 : cl + 6 ≤ room_R.cells ∧ sl + 36 ≤ room_R.slots := ⟨by show _ ≤ 8000; omega, by show _ ≤ 60000; omega⟩
    have hbA : ¬ zAq s b := Nat.not_le.mpr hbl
    refine z_iload (zC_pad Nc C) dL_law_1759 14 rfl ?_
    refine z_aload_n (zC_pad Nc C) dL_law_1761 rfl 2 rfl ?_
    refine z_iconst (v := 4) (zC_pad Nc C) dL_law_1762 (by decide) ?_
    obtain ⟨g40, hF⟩ := zix_some hF
    refine z_iald (v := ((Wc 0) (4 : Int32).toNatClampNeg)) (zC_pad Nc C) g40 30 rfl rfl rfl dL_law_1763 ?_
    refine z_icmp_ge (tgt := 1818) (zC_pad Nc C) dL_law_1764 (by decide) (fun c41 => ?_) (fun c41 => ?_)
    · have hF := zif hF c41
      refine z_aload_n (zC_pad Nc C) dL_law_1818 rfl 1 rfl ?_
      refine z_iload (zC_pad Nc C) dL_law_1819 12 rfl ?_
      obtain ⟨r42, er42, hF⟩ := zok_some hF
      refine z_gcallV_R (n := 1) (As := [.int v17]) (ws' := (zwX7 cI cJ cZ ab a5 a3 a6 a1 a0 Bc Pc Mc Tc r42.2.1 r42.2.2.1 r42.2.2.2 ++ zwW cI cJ cZ aw Wc Oc)) (zC_pad Nc C) C XE (zhb_p C) (c_X7_revokeBelow l hl D cI cJ cZ ab a5 a3 a6 a1 a0 Bc Pc Mc Tc Kc Uc Lc v17 (.inr r42) er42) gL_law_X7_revokeBelow rfl (by decide +kernel) ⟨Nat.le_of_ble_eq_true rfl, Nat.le_of_ble_eq_true rfl⟩ hf2 0 rfl rfl [] (zwW cI cJ cZ aw Wc Oc) rfl rfl rfl rfl (Nat.le_of_ble_eq_true rfl) dL_law_1821 ?_
      refine z_iload (zC_pad Nc C) dL_law_1824 13 rfl ?_
      refine z_icmp_ne (tgt := 1843) (zC_pad Nc C) dL_law_1826 (by decide) (fun c43 => ?_) (fun c43 => ?_)
      · have hF := zelse hF c43
        refine z_iconst (v := 0) (zC_pad Nc C) dL_law_1843 (by decide) ?_
        exact absurd hF (fun q => nomatch q)
      · have hF := zif hF c43
        refine z_aload_n (zC_pad Nc C) dL_law_1829 rfl 1 rfl ?_
        refine z_iconst (v := 4) (zC_pad Nc C) dL_law_1830 (by decide) ?_
        refine z_iconst (v := 0) (zC_pad Nc C) dL_law_1831 (by decide) ?_
        refine z_iload (zC_pad Nc C) dL_law_1832 13 rfl ?_
        refine z_aload_n (zC_pad Nc C) dL_law_1834 rfl 2 rfl ?_
        refine z_aload (zC_pad Nc C) dL_law_1835 9 rfl ?_
        obtain ⟨r44, er44, hF⟩ := zbd hF
        refine z_gcallS (N := Nc) (n := 6) (As := [.ref ab, .int 4, .int 0, .int v18, .ref (aw 0), .ref (aw 7)]) (ws' := (zwX7 cI cJ cZ ab a5 a3 a6 a1 a0 Bc Pc Mc Tc r42.2.1 r42.2.2.1 r42.2.2.2 ++ zwW cI cJ cZ aw r44.2.1 r44.2.2)) C XE XN (c_L_writes l hl D cI cJ cZ ab a5 a3 a6 a1 a0 aw Bc Pc Mc Tc r42.2.1 r42.2.2.1 Wc r42.2.2.2 Oc 4 0 v18 r44 er44) gL_law_L_writes rfl (by decide +kernel) ⟨Nat.le_of_ble_eq_true rfl, Nat.le_of_ble_eq_true rfl⟩ hf2 [] [] zAs7 zAs8 rfl rfl (Nat.le_of_ble_eq_true rfl) dL_law_1837 ?_
        rw [Nat.add_zero]
        refine z_if_ne (tgt := 1845) (zC_pad Nc C) dL_law_1840 (by decide) (fun c45 => ?_) (fun c45 => ?_)
        · have hF := zelse hF c45
          refine z_goto (tgt := 1930) (zC_pad Nc C) dL_law_1845 (by decide) ?_
          refine z_iwiden (k := cl + 3) (n := sl + 18) (by omega) (by omega) ?_
          exact z_sub (zC_pad Nc C) [0, 1, 2, 3, 4, 5, 6, 7, 8, 9, 10, 11] rfl (c_L_law_j1930 l hl D cI cJ cZ ab a5 a3 a6 a1 a0 aw u C XE XN hX hbl cl sl (by omega) (by omega) k100 hk100 Bc Pc Mc Tc r42.2.1 r42.2.2.1 r42.2.2.2 r44.2.1 r44.2.2 Nc v10 v11 hF)
        · have hF := zif hF c45
          refine z_iconst (v := 0) (zC_pad Nc C) dL_law_1843 (by decide) ?_
          exact absurd hF (fun q => nomatch q)
    · have hF := zelse hF c41
      refine z_iload (zC_pad Nc C) dL_law_1767 14 rfl ?_
      refine z_aload_n (zC_pad Nc C) dL_law_1769 rfl 2 rfl ?_
      refine z_aload_n (zC_pad Nc C) dL_law_1770 rfl 3 rfl ?_
      refine z_aload (zC_pad Nc C) dL_law_1771 4 rfl ?_
      obtain ⟨r46, er46, hF⟩ := zbd hF
      refine z_callSW (n := 4) (As := [.int v19, .ref (aw 0), .ref (aw 1), .ref (aw 2)]) (ws' := (zwX7 cI cJ cZ ab a5 a3 a6 a1 a0 Bc Pc Mc Tc Kc Uc Lc ++ zwW cI cJ cZ aw Wc Oc)) (zC_pad Nc C) (c_L_works l D cI cJ cZ aw Wc Oc v19 r46 er46) gL_law_L_works rfl rfl rfl (by decide +kernel) ⟨Nat.le_of_ble_eq_true rfl, Nat.le_of_ble_eq_true rfl⟩ hf2 (zwX7 cI cJ cZ ab a5 a3 a6 a1 a0 Bc Pc Mc Tc Kc Uc Lc) [] zAs5 zAs6 rfl rfl (Nat.le_of_ble_eq_true rfl) dL_law_1773 ?_
      refine z_if_eq (tgt := 1812) (zC_pad Nc C) dL_law_1776 (by decide) (fun c47 => ?_) (fun c47 => ?_)
      · have hF := zif hF c47
        refine z_iinc (v := (v19 + 1)) (lv' := [(19, .int (v19 + 1)), (0, .ref b), (1, .ref ab), (2, .ref (aw 0)), (3, .ref (aw 1)), (4, .ref (aw 2)), (5, .ref (aw 3)), (6, .ref (aw 4)), (7, .ref (aw 5)), (8, .ref (aw 6)), (9, .ref (aw 7)), (10, .int v10), (11, .int v11), (17, .int v17), (18, .int v18)]) (zC_pad Nc C) dL_law_1812 14 rfl rfl (by decide) rfl ?_
        refine z_goto (tgt := 1759) (zC_pad Nc C) dL_law_1815 (by decide) ?_
        exact z_sub (zC_pad Nc C) [1, 2, 3, 4, 5, 6, 7, 8, 9, 10, 11, 12, 13, 14, 0] rfl (ih Bc Pc Mc Tc Kc Uc Lc Wc Oc Nc v10 v11 v17 v18 (v19 + 1) hF)
      · have hF := zelse hF c47
        refine z_aload (zC_pad Nc C) dL_law_1779 4 rfl ?_
        refine z_iconst (v := 5) (zC_pad Nc C) dL_law_1781 (by decide) ?_
        refine z_iload (zC_pad Nc C) dL_law_1782 14 rfl ?_
        refine z_imul (zC_pad Nc C) dL_law_1784 ?_
        refine z_iconst (v := 1) (zC_pad Nc C) dL_law_1785 (by decide) ?_
        refine z_iadd (zC_pad Nc C) dL_law_1786 ?_
        obtain ⟨g48, hF⟩ := zix_some hF
        refine z_iald (v := ((Wc 2) ((5 * v19) + 1).toNatClampNeg)) (zC_pad Nc C) g48 32 rfl rfl rfl dL_law_1787 ?_
        refine z_iload (zC_pad Nc C) dL_law_1788 12 rfl ?_
        obtain ⟨r49, er49, hF⟩ := zbd hF
        refine z_callS (n := 2) (As := [.int ((Wc 2) ((5 * v19) + 1).toNatClampNeg), .int v17]) (zC_pad Nc C) (c_L_isBelow l D cI cJ cZ ((Wc 2) ((5 * v19) + 1).toNatClampNeg) v17 r49 er49) gL_law_L_isBelow rfl rfl rfl (by decide +kernel) ⟨Nat.le_of_ble_eq_true rfl, Nat.le_of_ble_eq_true rfl⟩ hf2 rfl rfl (Nat.le_of_ble_eq_true rfl) dL_law_1790 ?_
        refine z_if_ne (tgt := 1799) (zC_pad Nc C) dL_law_1793 (by decide) (fun c50 => ?_) (fun c50 => ?_)
        · have hF := zelse hF c50
          refine z_aload (zC_pad Nc C) dL_law_1799 4 rfl ?_
          refine z_iconst (v := 5) (zC_pad Nc C) dL_law_1801 (by decide) ?_
          refine z_iload (zC_pad Nc C) dL_law_1802 14 rfl ?_
          refine z_imul (zC_pad Nc C) dL_law_1804 ?_
          refine z_iconst (v := 4) (zC_pad Nc C) dL_law_1805 (by decide) ?_
          refine z_iadd (zC_pad Nc C) dL_law_1806 ?_
          refine z_iconst (v := 1) (zC_pad Nc C) dL_law_1807 (by decide) ?_
          obtain ⟨g51, hF⟩ := zix_some hF
          refine z_iast (ws' := (zwX7 cI cJ cZ ab a5 a3 a6 a1 a0 Bc Pc Mc Tc Kc Uc Lc ++ zwW cI cJ cZ aw (za Wc 2 ((5 * v19) + 4) 1) Oc)) (zC_pad Nc C) g51 32 rfl rfl dL_law_1808 (za_row Wc 2 ((5 * v19) + 4) 1) (zq_W_2 cI cJ cZ ab a5 a3 a6 a1 a0 Bc Pc Mc Tc Kc Uc Lc aw Wc Oc ((5 * v19) + 4) 1) ?_
          refine z_iinc (v := (v18 + 1)) (lv' := [(18, .int (v18 + 1)), (0, .ref b), (1, .ref ab), (2, .ref (aw 0)), (3, .ref (aw 1)), (4, .ref (aw 2)), (5, .ref (aw 3)), (6, .ref (aw 4)), (7, .ref (aw 5)), (8, .ref (aw 6)), (9, .ref (aw 7)), (10, .int v10), (11, .int v11), (17, .int v17), (19, .int v19)]) (zC_pad Nc C) dL_law_1809 13 rfl rfl (by decide) rfl ?_
          refine z_iinc (v := (v19 + 1)) (lv' := [(19, .int (v19 + 1)), (18, .int (v18 + 1)), (0, .ref b), (1, .ref ab), (2, .ref (aw 0)), (3, .ref (aw 1)), (4, .ref (aw 2)), (5, .ref (aw 3)), (6, .ref (aw 4)), (7, .ref (aw 5)), (8, .ref (aw 6)), (9, .ref (aw 7)), (10, .int v10), (11, .int v11), (17, .int v17)]) (zC_pad Nc C) dL_law_1812 14 rfl rfl (by decide) rfl ?_
          refine z_goto (tgt := 1759) (zC_pad Nc C) dL_law_1815 (by decide) ?_
          exact z_sub (zC_pad Nc C) [2, 3, 4, 5, 6, 7, 8, 9, 10, 11, 12, 13, 14, 1, 0] rfl (ih Bc Pc Mc Tc Kc Uc Lc (za Wc 2 ((5 * v19) + 4) 1) Oc Nc v10 v11 v17 (v18 + 1) (v19 + 1) hF)
        · have hF := zif hF c50
          refine z_goto (tgt := 1812) (zC_pad Nc C) dL_law_1796 (by decide) ?_
          refine z_iinc (v := (v19 + 1)) (lv' := [(19, .int (v19 + 1)), (0, .ref b), (1, .ref ab), (2, .ref (aw 0)), (3, .ref (aw 1)), (4, .ref (aw 2)), (5, .ref (aw 3)), (6, .ref (aw 4)), (7, .ref (aw 5)), (8, .ref (aw 6)), (9, .ref (aw 7)), (10, .int v10), (11, .int v11), (17, .int v17), (18, .int v18)]) (zC_pad Nc C) dL_law_1812 14 rfl rfl (by decide) rfl ?_
          refine z_goto (tgt := 1759) (zC_pad Nc C) dL_law_1815 (by decide) ?_
          exact z_sub (zC_pad Nc C) [1, 2, 3, 4, 5, 6, 7, 8, 9, 10, 11, 12, 13, 14, 0] rfl (ih Bc Pc Mc Tc Kc Uc Lc Wc Oc Nc v10 v11 v17 v18 (v19 + 1) hF)
set_option maxHeartbeats 4000000 in
set_option maxRecDepth 100000 in
theorem c_L_law_j1683 (l : Launch) (hl : l.stackTraces = false) (D : va_G) (cI cJ cZ : ClassId) (ab : Nat) (a5 a3 a6 a1 a0 aw : Nat → Nat) (u : Nat) {p : Program} {e : Env} {s : State} {m : MethodId} {below : List Frame} {meth : Method} {c : Code} {b sL : Nat} {xs : Nat → Int32} (C : zC p s m #[.ref b] meth c cL_law 22 ret RL wsL_law D (zTy cI cJ cZ) (zAq s) s.heap) (XE : zE (zAq s) s s.heap) (XN : zN s) (hX : va_X b sL xs s s.heap) (hbl : b < s.heap.size) (cl sl : Nat) (hc : cl + 6 ≤ 8000) (hs : sl + 36 ≤ 60000) (k100 : SS → SS → SS → SS → SS → SS → SL → SS → SL → Nat → Int32 → Option Nat) (hk100 : ∀ (Bc : SS) (Pc : SS) (Mc : SS) (Tc : SS) (Kc : SS) (Uc : SS) (Lc : SL) (Wc : SS) (Oc : SL) (Nc : Nat) (v10 : Int32), k100 Bc Pc Mc Tc Kc Uc Lc Wc Oc Nc v10 = some u → zW p l e room_R s m #[.ref b] below meth c 22 D (zAq s) (zpad s.heap Nc) (cl + 6) (sl + 36) (lw_Z2 below s u) (zwX7 cI cJ cZ ab a5 a3 a6 a1 a0 Bc Pc Mc Tc Kc Uc Lc ++ zwW cI cJ cZ aw Wc Oc) [(0, .ref b), (1, .ref ab), (2, .ref (aw 0)), (3, .ref (aw 1)), (4, .ref (aw 2)), (5, .ref (aw 3)), (6, .ref (aw 4)), (7, .ref (aw 5)), (8, .ref (aw 6)), (9, .ref (aw 7)), (10, .int v10)] 100 []) (Bc : SS) (Pc : SS) (Mc : SS) (Tc : SS) (Kc : SS) (Uc : SS) (Lc : SL) (Wc : SS) (Oc : SL) (Nc : Nat) (v10 : Int32) (v11 : Int32) (v17 : Int32) (v18 : Int32) (s1 : Int32) (s2 : Int32) (hF : f_L_law_1683 xs sL k100 Bc Pc Mc Tc Kc Uc Lc Wc Oc Nc v10 v11 v17 v18 s1 s2 = some u) : zW p l e room_R s m #[.ref b] below meth c 22 D (zAq s) (zpad s.heap Nc) (cl + 2) (sl + 12) (lw_Z2 below s u) (zwX7 cI cJ cZ ab a5 a3 a6 a1 a0 Bc Pc Mc Tc Kc Uc Lc ++ zwW cI cJ cZ aw Wc Oc) [(0, .ref b), (1, .ref ab), (2, .ref (aw 0)), (3, .ref (aw 1)), (4, .ref (aw 2)), (5, .ref (aw 3)), (6, .ref (aw 4)), (7, .ref (aw 5)), (8, .ref (aw 6)), (9, .ref (aw 7)), (10, .int v10), (11, .int v11), (17, .int v17), (18, .int v18)] 1683 [.int s2, .int s1, .ref (aw 2)] := by
  unfold f_L_law_1683 at hF
  have hf0 : cl + 0 ≤ room_R.cells ∧ sl + 0 ≤ room_R.slots := ⟨by show _ ≤ 8000; omega, by show _ ≤ 60000; omega⟩
  have hf1 : cl + 1 ≤ room_R.cells ∧ sl + 6 ≤ room_R.slots := ⟨by show _ ≤ 8000; omega, by show _ ≤ 60000; omega⟩
  have hf2 : cl + 2 ≤ room_R.cells ∧ sl + 12 ≤ room_R.slots := ⟨by show _ ≤ 8000; omega, by show _ ≤ 60000; omega⟩
  have hf3 : cl + 3 ≤ room_R.cells ∧ sl + 18 ≤ room_R.slots := ⟨by show _ ≤ 8000; omega, by show _ ≤ 60000; omega⟩
  have hf4 : cl + 4 ≤ room_R.cells ∧ sl + 24 ≤ room_R.slots := ⟨by show _ ≤ 8000; omega, by show _ ≤ 60000; omega⟩
  have hf5 : cl + 5 ≤ room_R.cells ∧ sl + 30 ≤ room_R.slots := ⟨by show _ ≤ 8000; omega, by show _ ≤ 60000; omega⟩
  have hf6 : cl + 6 ≤ room_R.cells ∧ sl + 36 ≤ room_R.slots := ⟨by show _ ≤ 8000; omega, by show _ ≤ 60000; omega⟩
  have hbA : ¬ zAq s b := Nat.not_le.mpr hbl
  obtain ⟨g66, hF⟩ := zix_some hF
  refine z_iast (ws' := (zwX7 cI cJ cZ ab a5 a3 a6 a1 a0 Bc Pc Mc Tc Kc Uc Lc ++ zwW cI cJ cZ aw (za Wc 2 s1 s2) Oc)) (zC_pad Nc C) g66 32 rfl rfl dL_law_1683 (za_row Wc 2 s1 s2) (zq_W_2 cI cJ cZ ab a5 a3 a6 a1 a0 Bc Pc Mc Tc Kc Uc Lc aw Wc Oc s1 s2) ?_
  refine z_aload_n (zC_pad Nc C) dL_law_1684 rfl 1 rfl ?_
  refine z_iload (zC_pad Nc C) dL_law_1685 12 rfl ?_
  refine z_iload (zC_pad Nc C) dL_law_1687 13 rfl ?_
  obtain ⟨r67, er67, hF⟩ := zok_some hF
  refine z_gcallV_R (n := 2) (As := [.int v17, .int v18]) (ws' := (zwX7 cI cJ cZ ab a5 a3 a6 a1 a0 Bc Pc Mc Tc r67.2.1 r67.2.2.1 r67.2.2.2 ++ zwW cI cJ cZ aw (za Wc 2 s1 s2) Oc)) (zC_pad Nc C) C XE (zhb_p C) (c_X7_renewCredential l hl D cI cJ cZ ab a5 a3 a6 a1 a0 Bc Pc Mc Tc Kc Uc Lc v17 v18 (.inr r67) er67) gL_law_X7_renewCredential rfl (by decide +kernel) ⟨Nat.le_of_ble_eq_true rfl, Nat.le_of_ble_eq_true rfl⟩ hf2 0 rfl rfl [] (zwW cI cJ cZ aw (za Wc 2 s1 s2) Oc) rfl rfl rfl rfl (Nat.le_of_ble_eq_true rfl) dL_law_1689 ?_
  refine z_aload (zC_pad Nc C) dL_law_1692 4 rfl ?_
  refine z_iconst (v := 5) (zC_pad Nc C) dL_law_1694 (by decide) ?_
  refine z_iload (zC_pad Nc C) dL_law_1695 12 rfl ?_
  refine z_imul (zC_pad Nc C) dL_law_1697 ?_
  refine z_iconst (v := 2) (zC_pad Nc C) dL_law_1698 (by decide) ?_
  refine z_iadd (zC_pad Nc C) dL_law_1699 ?_
  obtain ⟨g68, hF⟩ := zix_some hF
  refine z_iald (v := (((za Wc 2 s1 s2) 2) ((5 * v17) + 2).toNatClampNeg)) (zC_pad Nc C) g68 32 rfl rfl rfl dL_law_1700 ?_
  refine z_icmp_ne (tgt := 1731) (zC_pad Nc C) dL_law_1701 (by decide) (fun c69 => ?_) (fun c69 => ?_)
  · have hF := zelse hF c69
    refine z_iconst (v := 0) (zC_pad Nc C) dL_law_1731 (by decide) ?_
    exact absurd hF (fun q => nomatch q)
  · have hF := zif hF c69
    refine z_aload_n (zC_pad Nc C) dL_law_1704 rfl 1 rfl ?_
    refine z_iconst (v := 1) (zC_pad Nc C) dL_law_1705 (by decide) ?_
    refine z_aload (zC_pad Nc C) dL_law_1706 4 rfl ?_
    refine z_iconst (v := 5) (zC_pad Nc C) dL_law_1708 (by decide) ?_
    refine z_iload (zC_pad Nc C) dL_law_1709 12 rfl ?_
    refine z_imul (zC_pad Nc C) dL_law_1711 ?_
    obtain ⟨g70, hF⟩ := zix_some hF
    refine z_iald (v := (((za Wc 2 s1 s2) 2) (5 * v17).toNatClampNeg)) (zC_pad Nc C) g70 32 rfl rfl rfl dL_law_1712 ?_
    refine z_aload (zC_pad Nc C) dL_law_1713 4 rfl ?_
    refine z_iconst (v := 5) (zC_pad Nc C) dL_law_1715 (by decide) ?_
    refine z_iload (zC_pad Nc C) dL_law_1716 12 rfl ?_
    refine z_imul (zC_pad Nc C) dL_law_1718 ?_
    refine z_iconst (v := 2) (zC_pad Nc C) dL_law_1719 (by decide) ?_
    refine z_iadd (zC_pad Nc C) dL_law_1720 ?_
    obtain ⟨g71, hF⟩ := zix_some hF
    refine z_iald (v := (((za Wc 2 s1 s2) 2) ((5 * v17) + 2).toNatClampNeg)) (zC_pad Nc C) g71 32 rfl rfl rfl dL_law_1721 ?_
    refine z_aload_n (zC_pad Nc C) dL_law_1722 rfl 2 rfl ?_
    refine z_aload (zC_pad Nc C) dL_law_1723 9 rfl ?_
    obtain ⟨r72, er72, hF⟩ := zbd hF
    refine z_gcallS (N := Nc) (n := 6) (As := [.ref ab, .int 1, .int (((za Wc 2 s1 s2) 2) (5 * v17).toNatClampNeg), .int (((za Wc 2 s1 s2) 2) ((5 * v17) + 2).toNatClampNeg), .ref (aw 0), .ref (aw 7)]) (ws' := (zwX7 cI cJ cZ ab a5 a3 a6 a1 a0 Bc Pc Mc Tc r67.2.1 r67.2.2.1 r67.2.2.2 ++ zwW cI cJ cZ aw r72.2.1 r72.2.2)) C XE XN (c_L_writes l hl D cI cJ cZ ab a5 a3 a6 a1 a0 aw Bc Pc Mc Tc r67.2.1 r67.2.2.1 (za Wc 2 s1 s2) r67.2.2.2 Oc 1 (((za Wc 2 s1 s2) 2) (5 * v17).toNatClampNeg) (((za Wc 2 s1 s2) 2) ((5 * v17) + 2).toNatClampNeg) r72 er72) gL_law_L_writes rfl (by decide +kernel) ⟨Nat.le_of_ble_eq_true rfl, Nat.le_of_ble_eq_true rfl⟩ hf2 [] [] zAs7 zAs8 rfl rfl (Nat.le_of_ble_eq_true rfl) dL_law_1725 ?_
    rw [Nat.add_zero]
    refine z_if_ne (tgt := 1733) (zC_pad Nc C) dL_law_1728 (by decide) (fun c73 => ?_) (fun c73 => ?_)
    · have hF := zelse hF c73
      refine z_goto (tgt := 1930) (zC_pad Nc C) dL_law_1733 (by decide) ?_
      refine z_iwiden (k := cl + 3) (n := sl + 18) (by omega) (by omega) ?_
      exact z_sub (zC_pad Nc C) [0, 1, 2, 3, 4, 5, 6, 7, 8, 9, 10, 11] rfl (c_L_law_j1930 l hl D cI cJ cZ ab a5 a3 a6 a1 a0 aw u C XE XN hX hbl cl sl (by omega) (by omega) k100 hk100 Bc Pc Mc Tc r67.2.1 r67.2.2.1 r67.2.2.2 r72.2.1 r72.2.2 Nc v10 v11 hF)
    · have hF := zif hF c73
      refine z_iconst (v := 0) (zC_pad Nc C) dL_law_1731 (by decide) ?_
      exact absurd hF (fun q => nomatch q)
set_option maxHeartbeats 4000000 in
set_option maxRecDepth 100000 in
theorem c_L_law_j1645 (l : Launch) (hl : l.stackTraces = false) (D : va_G) (cI cJ cZ : ClassId) (ab : Nat) (a5 a3 a6 a1 a0 aw : Nat → Nat) (u : Nat) {p : Program} {e : Env} {s : State} {m : MethodId} {below : List Frame} {meth : Method} {c : Code} {b sL : Nat} {xs : Nat → Int32} (C : zC p s m #[.ref b] meth c cL_law 22 ret RL wsL_law D (zTy cI cJ cZ) (zAq s) s.heap) (XE : zE (zAq s) s s.heap) (XN : zN s) (hX : va_X b sL xs s s.heap) (hbl : b < s.heap.size) (cl sl : Nat) (hc : cl + 6 ≤ 8000) (hs : sl + 36 ≤ 60000) (k100 : SS → SS → SS → SS → SS → SS → SL → SS → SL → Nat → Int32 → Option Nat) (hk100 : ∀ (Bc : SS) (Pc : SS) (Mc : SS) (Tc : SS) (Kc : SS) (Uc : SS) (Lc : SL) (Wc : SS) (Oc : SL) (Nc : Nat) (v10 : Int32), k100 Bc Pc Mc Tc Kc Uc Lc Wc Oc Nc v10 = some u → zW p l e room_R s m #[.ref b] below meth c 22 D (zAq s) (zpad s.heap Nc) (cl + 6) (sl + 36) (lw_Z2 below s u) (zwX7 cI cJ cZ ab a5 a3 a6 a1 a0 Bc Pc Mc Tc Kc Uc Lc ++ zwW cI cJ cZ aw Wc Oc) [(0, .ref b), (1, .ref ab), (2, .ref (aw 0)), (3, .ref (aw 1)), (4, .ref (aw 2)), (5, .ref (aw 3)), (6, .ref (aw 4)), (7, .ref (aw 5)), (8, .ref (aw 6)), (9, .ref (aw 7)), (10, .int v10)] 100 []) (Bc : SS) (Pc : SS) (Mc : SS) (Tc : SS) (Kc : SS) (Uc : SS) (Lc : SL) (Wc : SS) (Oc : SL) (Nc : Nat) (v10 : Int32) (v11 : Int32) (v17 : Int32) (v18 : Int32) (s0 : Int32) (hF : f_L_law_1645 xs sL k100 Bc Pc Mc Tc Kc Uc Lc Wc Oc Nc v10 v11 v17 v18 s0 = some u) : zW p l e room_R s m #[.ref b] below meth c 22 D (zAq s) (zpad s.heap Nc) (cl + 2) (sl + 12) (lw_Z2 below s u) (zwX7 cI cJ cZ ab a5 a3 a6 a1 a0 Bc Pc Mc Tc Kc Uc Lc ++ zwW cI cJ cZ aw Wc Oc) [(0, .ref b), (1, .ref ab), (2, .ref (aw 0)), (3, .ref (aw 1)), (4, .ref (aw 2)), (5, .ref (aw 3)), (6, .ref (aw 4)), (7, .ref (aw 5)), (8, .ref (aw 6)), (9, .ref (aw 7)), (10, .int v10), (11, .int v11), (17, .int v17), (18, .int v18)] 1645 [.int s0] := by
  unfold f_L_law_1645 at hF
  have hf0 : cl + 0 ≤ room_R.cells ∧ sl + 0 ≤ room_R.slots := ⟨by show _ ≤ 8000; omega, by show _ ≤ 60000; omega⟩
  have hf1 : cl + 1 ≤ room_R.cells ∧ sl + 6 ≤ room_R.slots := ⟨by show _ ≤ 8000; omega, by show _ ≤ 60000; omega⟩
  have hf2 : cl + 2 ≤ room_R.cells ∧ sl + 12 ≤ room_R.slots := ⟨by show _ ≤ 8000; omega, by show _ ≤ 60000; omega⟩
  have hf3 : cl + 3 ≤ room_R.cells ∧ sl + 18 ≤ room_R.slots := ⟨by show _ ≤ 8000; omega, by show _ ≤ 60000; omega⟩
  have hf4 : cl + 4 ≤ room_R.cells ∧ sl + 24 ≤ room_R.slots := ⟨by show _ ≤ 8000; omega, by show _ ≤ 60000; omega⟩
  have hf5 : cl + 5 ≤ room_R.cells ∧ sl + 30 ≤ room_R.slots := ⟨by show _ ≤ 8000; omega, by show _ ≤ 60000; omega⟩
  have hf6 : cl + 6 ≤ room_R.cells ∧ sl + 36 ≤ room_R.slots := ⟨by show _ ≤ 8000; omega, by show _ ≤ 60000; omega⟩
  have hbA : ¬ zAq s b := Nat.not_le.mpr hbl
  refine z_istore (lv' := [(19, .int s0), (0, .ref b), (1, .ref ab), (2, .ref (aw 0)), (3, .ref (aw 1)), (4, .ref (aw 2)), (5, .ref (aw 3)), (6, .ref (aw 4)), (7, .ref (aw 5)), (8, .ref (aw 6)), (9, .ref (aw 7)), (10, .int v10), (11, .int v11), (17, .int v17), (18, .int v18)]) (zC_pad Nc C) dL_law_1645 (by decide) rfl ?_
  refine z_aload (zC_pad Nc C) dL_law_1647 5 rfl ?_
  refine z_iconst (v := 5) (zC_pad Nc C) dL_law_1649 (by decide) ?_
  refine z_iload (zC_pad Nc C) dL_law_1650 13 rfl ?_
  refine z_imul (zC_pad Nc C) dL_law_1652 ?_
  refine z_iconst (v := 2) (zC_pad Nc C) dL_law_1653 (by decide) ?_
  refine z_iadd (zC_pad Nc C) dL_law_1654 ?_
  refine z_iload (zC_pad Nc C) dL_law_1655 0 rfl ?_
  refine z_aload (zC_pad Nc C) dL_law_1657 5 rfl ?_
  refine z_iconst (v := 5) (zC_pad Nc C) dL_law_1659 (by decide) ?_
  refine z_iload (zC_pad Nc C) dL_law_1660 13 rfl ?_
  refine z_imul (zC_pad Nc C) dL_law_1662 ?_
  refine z_iconst (v := 2) (zC_pad Nc C) dL_law_1663 (by decide) ?_
  refine z_iadd (zC_pad Nc C) dL_law_1664 ?_
  obtain ⟨g63, hF⟩ := zix_some hF
  refine z_iald (v := ((Wc 2) ((5 * v17) + 2).toNatClampNeg)) (zC_pad Nc C) g63 32 rfl rfl rfl dL_law_1665 ?_
  refine z_icmp_le (tgt := 1674) (zC_pad Nc C) dL_law_1666 (by decide) (fun c64 => ?_) (fun c64 => ?_)
  · have hF := zif hF c64
    refine z_aload (zC_pad Nc C) dL_law_1674 5 rfl ?_
    refine z_iconst (v := 5) (zC_pad Nc C) dL_law_1676 (by decide) ?_
    refine z_iload (zC_pad Nc C) dL_law_1677 13 rfl ?_
    refine z_imul (zC_pad Nc C) dL_law_1679 ?_
    refine z_iconst (v := 2) (zC_pad Nc C) dL_law_1680 (by decide) ?_
    refine z_iadd (zC_pad Nc C) dL_law_1681 ?_
    obtain ⟨g65, hF⟩ := zix_some hF
    refine z_iald (v := ((Wc 2) ((5 * v17) + 2).toNatClampNeg)) (zC_pad Nc C) g65 32 rfl rfl rfl dL_law_1682 ?_
    exact z_sub (zC_pad Nc C) [1, 2, 3, 4, 5, 6, 7, 8, 9, 10, 11, 12, 13, 14] rfl (c_L_law_j1683 l hl D cI cJ cZ ab a5 a3 a6 a1 a0 aw u C XE XN hX hbl cl sl (by omega) (by omega) k100 hk100 Bc Pc Mc Tc Kc Uc Lc Wc Oc Nc v10 v11 v17 v18 ((5 * v17) + 2) ((Wc 2) ((5 * v17) + 2).toNatClampNeg) hF)
  · have hF := zelse hF c64
    refine z_iload (zC_pad Nc C) dL_law_1669 0 rfl ?_
    refine z_goto (tgt := 1683) (zC_pad Nc C) dL_law_1671 (by decide) ?_
    exact z_sub (zC_pad Nc C) [1, 2, 3, 4, 5, 6, 7, 8, 9, 10, 11, 12, 13, 14] rfl (c_L_law_j1683 l hl D cI cJ cZ ab a5 a3 a6 a1 a0 aw u C XE XN hX hbl cl sl (by omega) (by omega) k100 hk100 Bc Pc Mc Tc Kc Uc Lc Wc Oc Nc v10 v11 v17 v18 ((5 * v17) + 2) s0 hF)
set_option maxHeartbeats 4000000 in
set_option maxRecDepth 100000 in
theorem c_L_law_j1525 (l : Launch) (hl : l.stackTraces = false) (D : va_G) (cI cJ cZ : ClassId) (ab : Nat) (a5 a3 a6 a1 a0 aw : Nat → Nat) (u : Nat) {p : Program} {e : Env} {s : State} {m : MethodId} {below : List Frame} {meth : Method} {c : Code} {b sL : Nat} {xs : Nat → Int32} (C : zC p s m #[.ref b] meth c cL_law 22 ret RL wsL_law D (zTy cI cJ cZ) (zAq s) s.heap) (XE : zE (zAq s) s s.heap) (XN : zN s) (hX : va_X b sL xs s s.heap) (hbl : b < s.heap.size) (cl sl : Nat) (hc : cl + 6 ≤ 8000) (hs : sl + 36 ≤ 60000) (k100 : SS → SS → SS → SS → SS → SS → SL → SS → SL → Nat → Int32 → Option Nat) (hk100 : ∀ (Bc : SS) (Pc : SS) (Mc : SS) (Tc : SS) (Kc : SS) (Uc : SS) (Lc : SL) (Wc : SS) (Oc : SL) (Nc : Nat) (v10 : Int32), k100 Bc Pc Mc Tc Kc Uc Lc Wc Oc Nc v10 = some u → zW p l e room_R s m #[.ref b] below meth c 22 D (zAq s) (zpad s.heap Nc) (cl + 6) (sl + 36) (lw_Z2 below s u) (zwX7 cI cJ cZ ab a5 a3 a6 a1 a0 Bc Pc Mc Tc Kc Uc Lc ++ zwW cI cJ cZ aw Wc Oc) [(0, .ref b), (1, .ref ab), (2, .ref (aw 0)), (3, .ref (aw 1)), (4, .ref (aw 2)), (5, .ref (aw 3)), (6, .ref (aw 4)), (7, .ref (aw 5)), (8, .ref (aw 6)), (9, .ref (aw 7)), (10, .int v10)] 100 []) (Bc : SS) (Pc : SS) (Mc : SS) (Tc : SS) (Kc : SS) (Uc : SS) (Lc : SL) (Wc : SS) (Oc : SL) (Nc : Nat) (v10 : Int32) (v11 : Int32) (s1 : Int32) (s2 : Int32) (s3 : Int32) (hF : f_L_law_1525 xs sL k100 Bc Pc Mc Tc Kc Uc Lc Wc Oc Nc v10 v11 s1 s2 s3 = some u) : zW p l e room_R s m #[.ref b] below meth c 22 D (zAq s) (zpad s.heap Nc) (cl + 2) (sl + 12) (lw_Z2 below s u) (zwX7 cI cJ cZ ab a5 a3 a6 a1 a0 Bc Pc Mc Tc Kc Uc Lc ++ zwW cI cJ cZ aw Wc Oc) [(0, .ref b), (1, .ref ab), (2, .ref (aw 0)), (3, .ref (aw 1)), (4, .ref (aw 2)), (5, .ref (aw 3)), (6, .ref (aw 4)), (7, .ref (aw 5)), (8, .ref (aw 6)), (9, .ref (aw 7)), (10, .int v10), (11, .int v11)] 1525 [.int s3, .int s2, .int s1, .ref ab] := by
  unfold f_L_law_1525 at hF
  have hf0 : cl + 0 ≤ room_R.cells ∧ sl + 0 ≤ room_R.slots := ⟨by show _ ≤ 8000; omega, by show _ ≤ 60000; omega⟩
  have hf1 : cl + 1 ≤ room_R.cells ∧ sl + 6 ≤ room_R.slots := ⟨by show _ ≤ 8000; omega, by show _ ≤ 60000; omega⟩
  have hf2 : cl + 2 ≤ room_R.cells ∧ sl + 12 ≤ room_R.slots := ⟨by show _ ≤ 8000; omega, by show _ ≤ 60000; omega⟩
  have hf3 : cl + 3 ≤ room_R.cells ∧ sl + 18 ≤ room_R.slots := ⟨by show _ ≤ 8000; omega, by show _ ≤ 60000; omega⟩
  have hf4 : cl + 4 ≤ room_R.cells ∧ sl + 24 ≤ room_R.slots := ⟨by show _ ≤ 8000; omega, by show _ ≤ 60000; omega⟩
  have hf5 : cl + 5 ≤ room_R.cells ∧ sl + 30 ≤ room_R.slots := ⟨by show _ ≤ 8000; omega, by show _ ≤ 60000; omega⟩
  have hf6 : cl + 6 ≤ room_R.cells ∧ sl + 36 ≤ room_R.slots := ⟨by show _ ≤ 8000; omega, by show _ ≤ 60000; omega⟩
  have hbA : ¬ zAq s b := Nat.not_le.mpr hbl
  refine z_aload_n (zC_pad Nc C) dL_law_1525 rfl 2 rfl ?_
  refine z_aload (zC_pad Nc C) dL_law_1526 9 rfl ?_
  obtain ⟨r95, er95, hF⟩ := zbd hF
  refine z_gcallS (N := Nc) (n := 6) (As := [.ref ab, .int s1, .int s2, .int s3, .ref (aw 0), .ref (aw 7)]) (ws' := (zwX7 cI cJ cZ ab a5 a3 a6 a1 a0 Bc Pc Mc Tc Kc Uc Lc ++ zwW cI cJ cZ aw r95.2.1 r95.2.2)) C XE XN (c_L_writes l hl D cI cJ cZ ab a5 a3 a6 a1 a0 aw Bc Pc Mc Tc Kc Uc Wc Lc Oc s1 s2 s3 r95 er95) gL_law_L_writes rfl (by decide +kernel) ⟨Nat.le_of_ble_eq_true rfl, Nat.le_of_ble_eq_true rfl⟩ hf2 [] [] zAs7 zAs8 rfl rfl (Nat.le_of_ble_eq_true rfl) dL_law_1528 ?_
  rw [Nat.add_zero]
  refine z_if_ne (tgt := 1536) (zC_pad Nc C) dL_law_1531 (by decide) (fun c96 => ?_) (fun c96 => ?_)
  · have hF := zelse hF c96
    refine z_goto (tgt := 1930) (zC_pad Nc C) dL_law_1536 (by decide) ?_
    refine z_iwiden (k := cl + 3) (n := sl + 18) (by omega) (by omega) ?_
    exact c_L_law_j1930 l hl D cI cJ cZ ab a5 a3 a6 a1 a0 aw u C XE XN hX hbl cl sl (by omega) (by omega) k100 hk100 Bc Pc Mc Tc Kc Uc Lc r95.2.1 r95.2.2 Nc v10 v11 hF
  · have hF := zif hF c96
    refine z_iconst (v := 0) (zC_pad Nc C) dL_law_1534 (by decide) ?_
    exact absurd hF (fun q => nomatch q)
set_option maxHeartbeats 4000000 in
set_option maxRecDepth 100000 in
theorem c_L_law_j1511 (l : Launch) (hl : l.stackTraces = false) (D : va_G) (cI cJ cZ : ClassId) (ab : Nat) (a5 a3 a6 a1 a0 aw : Nat → Nat) (u : Nat) {p : Program} {e : Env} {s : State} {m : MethodId} {below : List Frame} {meth : Method} {c : Code} {b sL : Nat} {xs : Nat → Int32} (C : zC p s m #[.ref b] meth c cL_law 22 ret RL wsL_law D (zTy cI cJ cZ) (zAq s) s.heap) (XE : zE (zAq s) s s.heap) (XN : zN s) (hX : va_X b sL xs s s.heap) (hbl : b < s.heap.size) (cl sl : Nat) (hc : cl + 6 ≤ 8000) (hs : sl + 36 ≤ 60000) (k100 : SS → SS → SS → SS → SS → SS → SL → SS → SL → Nat → Int32 → Option Nat) (hk100 : ∀ (Bc : SS) (Pc : SS) (Mc : SS) (Tc : SS) (Kc : SS) (Uc : SS) (Lc : SL) (Wc : SS) (Oc : SL) (Nc : Nat) (v10 : Int32), k100 Bc Pc Mc Tc Kc Uc Lc Wc Oc Nc v10 = some u → zW p l e room_R s m #[.ref b] below meth c 22 D (zAq s) (zpad s.heap Nc) (cl + 6) (sl + 36) (lw_Z2 below s u) (zwX7 cI cJ cZ ab a5 a3 a6 a1 a0 Bc Pc Mc Tc Kc Uc Lc ++ zwW cI cJ cZ aw Wc Oc) [(0, .ref b), (1, .ref ab), (2, .ref (aw 0)), (3, .ref (aw 1)), (4, .ref (aw 2)), (5, .ref (aw 3)), (6, .ref (aw 4)), (7, .ref (aw 5)), (8, .ref (aw 6)), (9, .ref (aw 7)), (10, .int v10)] 100 []) (Bc : SS) (Pc : SS) (Mc : SS) (Tc : SS) (Kc : SS) (Uc : SS) (Lc : SL) (Wc : SS) (Oc : SL) (Nc : Nat) (v10 : Int32) (v11 : Int32) (v14 : Int32) (v18 : Int32) (v19 : Int32) (s1 : Int32) (hF : f_L_law_1511 xs sL k100 Bc Pc Mc Tc Kc Uc Lc Wc Oc Nc v10 v11 v14 v18 v19 s1 = some u) : zW p l e room_R s m #[.ref b] below meth c 22 D (zAq s) (zpad s.heap Nc) (cl + 2) (sl + 12) (lw_Z2 below s u) (zwX7 cI cJ cZ ab a5 a3 a6 a1 a0 Bc Pc Mc Tc Kc Uc Lc ++ zwW cI cJ cZ aw Wc Oc) [(0, .ref b), (1, .ref ab), (2, .ref (aw 0)), (3, .ref (aw 1)), (4, .ref (aw 2)), (5, .ref (aw 3)), (6, .ref (aw 4)), (7, .ref (aw 5)), (8, .ref (aw 6)), (9, .ref (aw 7)), (10, .int v10), (11, .int v11), (14, .int v14), (18, .int v18), (19, .int v19)] 1511 [.int s1, .ref ab] := by
  unfold f_L_law_1511 at hF
  have hf0 : cl + 0 ≤ room_R.cells ∧ sl + 0 ≤ room_R.slots := ⟨by show _ ≤ 8000; omega, by show _ ≤ 60000; omega⟩
  have hf1 : cl + 1 ≤ room_R.cells ∧ sl + 6 ≤ room_R.slots := ⟨by show _ ≤ 8000; omega, by show _ ≤ 60000; omega⟩
  have hf2 : cl + 2 ≤ room_R.cells ∧ sl + 12 ≤ room_R.slots := ⟨by show _ ≤ 8000; omega, by show _ ≤ 60000; omega⟩
  have hf3 : cl + 3 ≤ room_R.cells ∧ sl + 18 ≤ room_R.slots := ⟨by show _ ≤ 8000; omega, by show _ ≤ 60000; omega⟩
  have hf4 : cl + 4 ≤ room_R.cells ∧ sl + 24 ≤ room_R.slots := ⟨by show _ ≤ 8000; omega, by show _ ≤ 60000; omega⟩
  have hf5 : cl + 5 ≤ room_R.cells ∧ sl + 30 ≤ room_R.slots := ⟨by show _ ≤ 8000; omega, by show _ ≤ 60000; omega⟩
  have hf6 : cl + 6 ≤ room_R.cells ∧ sl + 36 ≤ room_R.slots := ⟨by show _ ≤ 8000; omega, by show _ ≤ 60000; omega⟩
  have hbA : ¬ zAq s b := Nat.not_le.mpr hbl
  refine z_iload (zC_pad Nc C) dL_law_1511 12 rfl ?_
  refine z_iload (zC_pad Nc C) dL_law_1513 13 rfl ?_
  refine z_if_ne (tgt := 1523) (zC_pad Nc C) dL_law_1515 (by decide) (fun c94 => ?_) (fun c94 => ?_)
  · have hF := zelse hF c94
    refine z_iload (zC_pad Nc C) dL_law_1523 13 rfl ?_
    exact z_sub (zC_pad Nc C) [0, 1, 2, 3, 4, 5, 6, 7, 8, 9, 10, 11] rfl (c_L_law_j1525 l hl D cI cJ cZ ab a5 a3 a6 a1 a0 aw u C XE XN hX hbl cl sl (by omega) (by omega) k100 hk100 Bc Pc Mc Tc Kc Uc Lc Wc Oc Nc v10 v11 s1 v14 v18 hF)
  · have hF := zif hF c94
    refine z_iload (zC_pad Nc C) dL_law_1518 14 rfl ?_
    refine z_goto (tgt := 1525) (zC_pad Nc C) dL_law_1520 (by decide) ?_
    exact z_sub (zC_pad Nc C) [0, 1, 2, 3, 4, 5, 6, 7, 8, 9, 10, 11] rfl (c_L_law_j1525 l hl D cI cJ cZ ab a5 a3 a6 a1 a0 aw u C XE XN hX hbl cl sl (by omega) (by omega) k100 hk100 Bc Pc Mc Tc Kc Uc Lc Wc Oc Nc v10 v11 s1 v14 v19 hF)
set_option maxHeartbeats 4000000 in
set_option maxRecDepth 100000 in
theorem c_L_law_j1497 (l : Launch) (hl : l.stackTraces = false) (D : va_G) (cI cJ cZ : ClassId) (ab : Nat) (a5 a3 a6 a1 a0 aw : Nat → Nat) (u : Nat) {p : Program} {e : Env} {s : State} {m : MethodId} {below : List Frame} {meth : Method} {c : Code} {b sL : Nat} {xs : Nat → Int32} (C : zC p s m #[.ref b] meth c cL_law 22 ret RL wsL_law D (zTy cI cJ cZ) (zAq s) s.heap) (XE : zE (zAq s) s s.heap) (XN : zN s) (hX : va_X b sL xs s s.heap) (hbl : b < s.heap.size) (cl sl : Nat) (hc : cl + 6 ≤ 8000) (hs : sl + 36 ≤ 60000) (k100 : SS → SS → SS → SS → SS → SS → SL → SS → SL → Nat → Int32 → Option Nat) (hk100 : ∀ (Bc : SS) (Pc : SS) (Mc : SS) (Tc : SS) (Kc : SS) (Uc : SS) (Lc : SL) (Wc : SS) (Oc : SL) (Nc : Nat) (v10 : Int32), k100 Bc Pc Mc Tc Kc Uc Lc Wc Oc Nc v10 = some u → zW p l e room_R s m #[.ref b] below meth c 22 D (zAq s) (zpad s.heap Nc) (cl + 6) (sl + 36) (lw_Z2 below s u) (zwX7 cI cJ cZ ab a5 a3 a6 a1 a0 Bc Pc Mc Tc Kc Uc Lc ++ zwW cI cJ cZ aw Wc Oc) [(0, .ref b), (1, .ref ab), (2, .ref (aw 0)), (3, .ref (aw 1)), (4, .ref (aw 2)), (5, .ref (aw 3)), (6, .ref (aw 4)), (7, .ref (aw 5)), (8, .ref (aw 6)), (9, .ref (aw 7)), (10, .int v10)] 100 []) (Bc : SS) (Pc : SS) (Mc : SS) (Tc : SS) (Kc : SS) (Uc : SS) (Lc : SL) (Wc : SS) (Oc : SL) (Nc : Nat) (v10 : Int32) (v11 : Int32) (v14 : Int32) (v18 : Int32) (v19 : Int32) (s0 : Int32) (s1 : Int32) (hF : f_L_law_1497 xs sL k100 Bc Pc Mc Tc Kc Uc Lc Wc Oc Nc v10 v11 v14 v18 v19 s0 s1 = some u) : zW p l e room_R s m #[.ref b] below meth c 22 D (zAq s) (zpad s.heap Nc) (cl + 2) (sl + 12) (lw_Z2 below s u) (zwX7 cI cJ cZ ab a5 a3 a6 a1 a0 Bc Pc Mc Tc Kc Uc Lc ++ zwW cI cJ cZ aw Wc Oc) [(0, .ref b), (1, .ref ab), (2, .ref (aw 0)), (3, .ref (aw 1)), (4, .ref (aw 2)), (5, .ref (aw 3)), (6, .ref (aw 4)), (7, .ref (aw 5)), (8, .ref (aw 6)), (9, .ref (aw 7)), (10, .int v10), (11, .int v11), (14, .int v14), (18, .int v18), (19, .int v19)] 1497 [.int s1, .int s0] := by
  unfold f_L_law_1497 at hF
  have hf0 : cl + 0 ≤ room_R.cells ∧ sl + 0 ≤ room_R.slots := ⟨by show _ ≤ 8000; omega, by show _ ≤ 60000; omega⟩
  have hf1 : cl + 1 ≤ room_R.cells ∧ sl + 6 ≤ room_R.slots := ⟨by show _ ≤ 8000; omega, by show _ ≤ 60000; omega⟩
  have hf2 : cl + 2 ≤ room_R.cells ∧ sl + 12 ≤ room_R.slots := ⟨by show _ ≤ 8000; omega, by show _ ≤ 60000; omega⟩
  have hf3 : cl + 3 ≤ room_R.cells ∧ sl + 18 ≤ room_R.slots := ⟨by show _ ≤ 8000; omega, by show _ ≤ 60000; omega⟩
  have hf4 : cl + 4 ≤ room_R.cells ∧ sl + 24 ≤ room_R.slots := ⟨by show _ ≤ 8000; omega, by show _ ≤ 60000; omega⟩
  have hf5 : cl + 5 ≤ room_R.cells ∧ sl + 30 ≤ room_R.slots := ⟨by show _ ≤ 8000; omega, by show _ ≤ 60000; omega⟩
  have hf6 : cl + 6 ≤ room_R.cells ∧ sl + 36 ≤ room_R.slots := ⟨by show _ ≤ 8000; omega, by show _ ≤ 60000; omega⟩
  have hbA : ¬ zAq s b := Nat.not_le.mpr hbl
  refine z_icmp_ne (tgt := 1534) (zC_pad Nc C) dL_law_1497 (by decide) (fun c92 => ?_) (fun c92 => ?_)
  · have hF := zelse hF c92
    refine z_iconst (v := 0) (zC_pad Nc C) dL_law_1534 (by decide) ?_
    exact absurd hF (fun q => nomatch q)
  · have hF := zif hF c92
    refine z_aload_n (zC_pad Nc C) dL_law_1500 rfl 1 rfl ?_
    refine z_iload (zC_pad Nc C) dL_law_1501 13 rfl ?_
    refine z_if_ne (tgt := 1510) (zC_pad Nc C) dL_law_1503 (by decide) (fun c93 => ?_) (fun c93 => ?_)
    · have hF := zelse hF c93
      refine z_iconst (v := 3) (zC_pad Nc C) dL_law_1510 (by decide) ?_
      exact c_L_law_j1511 l hl D cI cJ cZ ab a5 a3 a6 a1 a0 aw u C XE XN hX hbl cl sl (by omega) (by omega) k100 hk100 Bc Pc Mc Tc Kc Uc Lc Wc Oc Nc v10 v11 v14 v18 v19 3 hF
    · have hF := zif hF c93
      refine z_iconst (v := 2) (zC_pad Nc C) dL_law_1506 (by decide) ?_
      refine z_goto (tgt := 1511) (zC_pad Nc C) dL_law_1507 (by decide) ?_
      exact c_L_law_j1511 l hl D cI cJ cZ ab a5 a3 a6 a1 a0 aw u C XE XN hX hbl cl sl (by omega) (by omega) k100 hk100 Bc Pc Mc Tc Kc Uc Lc Wc Oc Nc v10 v11 v14 v18 v19 2 hF
set_option maxHeartbeats 4000000 in
set_option maxRecDepth 100000 in
theorem c_L_law_j1478 (l : Launch) (hl : l.stackTraces = false) (D : va_G) (cI cJ cZ : ClassId) (ab : Nat) (a5 a3 a6 a1 a0 aw : Nat → Nat) (u : Nat) {p : Program} {e : Env} {s : State} {m : MethodId} {below : List Frame} {meth : Method} {c : Code} {b sL : Nat} {xs : Nat → Int32} (C : zC p s m #[.ref b] meth c cL_law 22 ret RL wsL_law D (zTy cI cJ cZ) (zAq s) s.heap) (XE : zE (zAq s) s s.heap) (XN : zN s) (hX : va_X b sL xs s s.heap) (hbl : b < s.heap.size) (cl sl : Nat) (hc : cl + 6 ≤ 8000) (hs : sl + 36 ≤ 60000) (k100 : SS → SS → SS → SS → SS → SS → SL → SS → SL → Nat → Int32 → Option Nat) (hk100 : ∀ (Bc : SS) (Pc : SS) (Mc : SS) (Tc : SS) (Kc : SS) (Uc : SS) (Lc : SL) (Wc : SS) (Oc : SL) (Nc : Nat) (v10 : Int32), k100 Bc Pc Mc Tc Kc Uc Lc Wc Oc Nc v10 = some u → zW p l e room_R s m #[.ref b] below meth c 22 D (zAq s) (zpad s.heap Nc) (cl + 6) (sl + 36) (lw_Z2 below s u) (zwX7 cI cJ cZ ab a5 a3 a6 a1 a0 Bc Pc Mc Tc Kc Uc Lc ++ zwW cI cJ cZ aw Wc Oc) [(0, .ref b), (1, .ref ab), (2, .ref (aw 0)), (3, .ref (aw 1)), (4, .ref (aw 2)), (5, .ref (aw 3)), (6, .ref (aw 4)), (7, .ref (aw 5)), (8, .ref (aw 6)), (9, .ref (aw 7)), (10, .int v10)] 100 []) (Bc : SS) (Pc : SS) (Mc : SS) (Tc : SS) (Kc : SS) (Uc : SS) (Lc : SL) (Wc : SS) (Oc : SL) (Nc : Nat) (v10 : Int32) (v11 : Int32) (v14 : Int32) (v17 : Int32) (v18 : Int32) (v19 : Int32) (hF : f_L_law_1478 xs sL k100 Bc Pc Mc Tc Kc Uc Lc Wc Oc Nc v10 v11 v14 v17 v18 v19 = some u) : zW p l e room_R s m #[.ref b] below meth c 22 D (zAq s) (zpad s.heap Nc) (cl + 2) (sl + 12) (lw_Z2 below s u) (zwX7 cI cJ cZ ab a5 a3 a6 a1 a0 Bc Pc Mc Tc Kc Uc Lc ++ zwW cI cJ cZ aw Wc Oc) [(0, .ref b), (1, .ref ab), (2, .ref (aw 0)), (3, .ref (aw 1)), (4, .ref (aw 2)), (5, .ref (aw 3)), (6, .ref (aw 4)), (7, .ref (aw 5)), (8, .ref (aw 6)), (9, .ref (aw 7)), (10, .int v10), (11, .int v11), (14, .int v14), (17, .int v17), (18, .int v18), (19, .int v19)] 1478 [] := by
  unfold f_L_law_1478 at hF
  have hf0 : cl + 0 ≤ room_R.cells ∧ sl + 0 ≤ room_R.slots := ⟨by show _ ≤ 8000; omega, by show _ ≤ 60000; omega⟩
  have hf1 : cl + 1 ≤ room_R.cells ∧ sl + 6 ≤ room_R.slots := ⟨by show _ ≤ 8000; omega, by show _ ≤ 60000; omega⟩
  have hf2 : cl + 2 ≤ room_R.cells ∧ sl + 12 ≤ room_R.slots := ⟨by show _ ≤ 8000; omega, by show _ ≤ 60000; omega⟩
  have hf3 : cl + 3 ≤ room_R.cells ∧ sl + 18 ≤ room_R.slots := ⟨by show _ ≤ 8000; omega, by show _ ≤ 60000; omega⟩
  have hf4 : cl + 4 ≤ room_R.cells ∧ sl + 24 ≤ room_R.slots := ⟨by show _ ≤ 8000; omega, by show _ ≤ 60000; omega⟩
  have hf5 : cl + 5 ≤ room_R.cells ∧ sl + 30 ≤ room_R.slots := ⟨by show _ ≤ 8000; omega, by show _ ≤ 60000; omega⟩
  have hf6 : cl + 6 ≤ room_R.cells ∧ sl + 36 ≤ room_R.slots := ⟨by show _ ≤ 8000; omega, by show _ ≤ 60000; omega⟩
  have hbA : ¬ zAq s b := Nat.not_le.mpr hbl
  refine z_aload_n (zC_pad Nc C) dL_law_1478 rfl 1 rfl ?_
  refine z_iload (zC_pad Nc C) dL_law_1479 12 rfl ?_
  refine z_iload (zC_pad Nc C) dL_law_1481 13 rfl ?_
  obtain ⟨r90, er90, hF⟩ := zok_some hF
  refine z_gcallV_R (n := 2) (As := [.int v14, .int v17]) (ws' := (zwX7 cI cJ cZ ab a5 a3 a6 a1 a0 Bc Pc Mc r90.2.1 r90.2.2.1 r90.2.2.2.1 r90.2.2.2.2 ++ zwW cI cJ cZ aw Wc Oc)) (zC_pad Nc C) C XE (zhb_p C) (c_X7_request l hl D cI cJ cZ ab a5 a3 a6 a1 a0 Bc Pc Mc Tc Kc Uc Lc v14 v17 (.inr r90) er90) gL_law_X7_request rfl (by decide +kernel) ⟨Nat.le_of_ble_eq_true rfl, Nat.le_of_ble_eq_true rfl⟩ hf2 0 rfl rfl [] (zwW cI cJ cZ aw Wc Oc) rfl rfl rfl rfl (Nat.le_of_ble_eq_true rfl) dL_law_1483 ?_
  refine z_iload (zC_pad Nc C) dL_law_1486 14 rfl ?_
  refine z_if_ne (tgt := 1496) (zC_pad Nc C) dL_law_1488 (by decide) (fun c91 => ?_) (fun c91 => ?_)
  · have hF := zelse hF c91
    refine z_iconst (v := (-1)) (zC_pad Nc C) dL_law_1496 (by decide) ?_
    exact z_sub (zC_pad Nc C) [0, 1, 2, 3, 4, 5, 6, 7, 8, 9, 10, 11, 12, 14, 15] rfl (c_L_law_j1497 l hl D cI cJ cZ ab a5 a3 a6 a1 a0 aw u C XE XN hX hbl cl sl (by omega) (by omega) k100 hk100 Bc Pc Mc r90.2.1 r90.2.2.1 r90.2.2.2.1 r90.2.2.2.2 Wc Oc Nc v10 v11 v14 v18 v19 r90.1 (-1) hF)
  · have hF := zif hF c91
    refine z_iload (zC_pad Nc C) dL_law_1491 15 rfl ?_
    refine z_goto (tgt := 1497) (zC_pad Nc C) dL_law_1493 (by decide) ?_
    exact z_sub (zC_pad Nc C) [0, 1, 2, 3, 4, 5, 6, 7, 8, 9, 10, 11, 12, 14, 15] rfl (c_L_law_j1497 l hl D cI cJ cZ ab a5 a3 a6 a1 a0 aw u C XE XN hX hbl cl sl (by omega) (by omega) k100 hk100 Bc Pc Mc r90.2.1 r90.2.2.1 r90.2.2.2.1 r90.2.2.2.2 Wc Oc Nc v10 v11 v14 v18 v19 r90.1 v19 hF)
set_option maxHeartbeats 4000000 in
set_option maxRecDepth 100000 in
theorem c_L_law_j1385 (l : Launch) (hl : l.stackTraces = false) (D : va_G) (cI cJ cZ : ClassId) (ab : Nat) (a5 a3 a6 a1 a0 aw : Nat → Nat) (u : Nat) {p : Program} {e : Env} {s : State} {m : MethodId} {below : List Frame} {meth : Method} {c : Code} {b sL : Nat} {xs : Nat → Int32} (C : zC p s m #[.ref b] meth c cL_law 22 ret RL wsL_law D (zTy cI cJ cZ) (zAq s) s.heap) (XE : zE (zAq s) s s.heap) (XN : zN s) (hX : va_X b sL xs s s.heap) (hbl : b < s.heap.size) (cl sl : Nat) (hc : cl + 6 ≤ 8000) (hs : sl + 36 ≤ 60000) (k100 : SS → SS → SS → SS → SS → SS → SL → SS → SL → Nat → Int32 → Option Nat) (hk100 : ∀ (Bc : SS) (Pc : SS) (Mc : SS) (Tc : SS) (Kc : SS) (Uc : SS) (Lc : SL) (Wc : SS) (Oc : SL) (Nc : Nat) (v10 : Int32), k100 Bc Pc Mc Tc Kc Uc Lc Wc Oc Nc v10 = some u → zW p l e room_R s m #[.ref b] below meth c 22 D (zAq s) (zpad s.heap Nc) (cl + 6) (sl + 36) (lw_Z2 below s u) (zwX7 cI cJ cZ ab a5 a3 a6 a1 a0 Bc Pc Mc Tc Kc Uc Lc ++ zwW cI cJ cZ aw Wc Oc) [(0, .ref b), (1, .ref ab), (2, .ref (aw 0)), (3, .ref (aw 1)), (4, .ref (aw 2)), (5, .ref (aw 3)), (6, .ref (aw 4)), (7, .ref (aw 5)), (8, .ref (aw 6)), (9, .ref (aw 7)), (10, .int v10)] 100 []) (Bc : SS) (Pc : SS) (Mc : SS) (Tc : SS) (Kc : SS) (Uc : SS) (Lc : SL) (Wc : SS) (Oc : SL) (Nc : Nat) (v10 : Int32) (v11 : Int32) (v14 : Int32) (v17 : Int32) (v18 : Int32) (s1 : Int32) (s2 : Int32) (s3 : Int32) (hF : f_L_law_1385 xs sL k100 Bc Pc Mc Tc Kc Uc Lc Wc Oc Nc v10 v11 v14 v17 v18 s1 s2 s3 = some u) : zW p l e room_R s m #[.ref b] below meth c 22 D (zAq s) (zpad s.heap Nc) (cl + 2) (sl + 12) (lw_Z2 below s u) (zwX7 cI cJ cZ ab a5 a3 a6 a1 a0 Bc Pc Mc Tc Kc Uc Lc ++ zwW cI cJ cZ aw Wc Oc) [(0, .ref b), (1, .ref ab), (2, .ref (aw 0)), (3, .ref (aw 1)), (4, .ref (aw 2)), (5, .ref (aw 3)), (6, .ref (aw 4)), (7, .ref (aw 5)), (8, .ref (aw 6)), (9, .ref (aw 7)), (10, .int v10), (11, .int v11), (14, .int v14), (17, .int v17), (18, .int v18)] 1385 [.int s3, .int s2, .int s1, .ref (aw 1)] := by
  unfold f_L_law_1385 at hF
  have hf0 : cl + 0 ≤ room_R.cells ∧ sl + 0 ≤ room_R.slots := ⟨by show _ ≤ 8000; omega, by show _ ≤ 60000; omega⟩
  have hf1 : cl + 1 ≤ room_R.cells ∧ sl + 6 ≤ room_R.slots := ⟨by show _ ≤ 8000; omega, by show _ ≤ 60000; omega⟩
  have hf2 : cl + 2 ≤ room_R.cells ∧ sl + 12 ≤ room_R.slots := ⟨by show _ ≤ 8000; omega, by show _ ≤ 60000; omega⟩
  have hf3 : cl + 3 ≤ room_R.cells ∧ sl + 18 ≤ room_R.slots := ⟨by show _ ≤ 8000; omega, by show _ ≤ 60000; omega⟩
  have hf4 : cl + 4 ≤ room_R.cells ∧ sl + 24 ≤ room_R.slots := ⟨by show _ ≤ 8000; omega, by show _ ≤ 60000; omega⟩
  have hf5 : cl + 5 ≤ room_R.cells ∧ sl + 30 ≤ room_R.slots := ⟨by show _ ≤ 8000; omega, by show _ ≤ 60000; omega⟩
  have hf6 : cl + 6 ≤ room_R.cells ∧ sl + 36 ≤ room_R.slots := ⟨by show _ ≤ 8000; omega, by show _ ≤ 60000; omega⟩
  have hbA : ¬ zAq s b := Nat.not_le.mpr hbl
  refine z_isub (zC_pad Nc C) dL_law_1385 ?_
  obtain ⟨g87, hF⟩ := zix_some hF
  refine z_iast (ws' := (zwX7 cI cJ cZ ab a5 a3 a6 a1 a0 Bc Pc Mc Tc Kc Uc Lc ++ zwW cI cJ cZ aw (za Wc 1 s1 (s2 - s3)) Oc)) (zC_pad Nc C) g87 31 rfl rfl dL_law_1386 (za_row Wc 1 s1 (s2 - s3)) (zq_W_1 cI cJ cZ ab a5 a3 a6 a1 a0 Bc Pc Mc Tc Kc Uc Lc aw Wc Oc s1 (s2 - s3)) ?_
  refine z_aload_n (zC_pad Nc C) dL_law_1387 rfl 2 rfl ?_
  refine z_iconst (v := 4) (zC_pad Nc C) dL_law_1388 (by decide) ?_
  obtain ⟨g88, hF⟩ := zix_some hF
  refine z_iald (v := ((Wc 0) (4 : Int32).toNatClampNeg)) (zC_pad Nc C) g88 30 rfl rfl rfl dL_law_1389 ?_
  refine z_istore (lv' := [(19, .int ((Wc 0) (4 : Int32).toNatClampNeg)), (0, .ref b), (1, .ref ab), (2, .ref (aw 0)), (3, .ref (aw 1)), (4, .ref (aw 2)), (5, .ref (aw 3)), (6, .ref (aw 4)), (7, .ref (aw 5)), (8, .ref (aw 6)), (9, .ref (aw 7)), (10, .int v10), (11, .int v11), (14, .int v14), (17, .int v17), (18, .int v18)]) (zC_pad Nc C) dL_law_1390 (by decide) rfl ?_
  refine z_iload (zC_pad Nc C) dL_law_1392 15 rfl ?_
  refine z_if_ne (tgt := 1478) (zC_pad Nc C) dL_law_1394 (by decide) (fun c89 => ?_) (fun c89 => ?_)
  · have hF := zelse hF c89
    exact z_sub (zC_pad Nc C) [1, 2, 3, 4, 5, 6, 7, 8, 9, 10, 11, 12, 13, 14, 15, 0] rfl (c_L_law_j1478 l hl D cI cJ cZ ab a5 a3 a6 a1 a0 aw u C XE XN hX hbl cl sl (by omega) (by omega) k100 hk100 Bc Pc Mc Tc Kc Uc Lc (za Wc 1 s1 (s2 - s3)) Oc Nc v10 v11 v14 v17 v18 ((Wc 0) (4 : Int32).toNatClampNeg) hF)
  · have hF := zif hF c89
    refine z_iload (zC_pad Nc C) dL_law_1397 14 rfl ?_
    refine z_aload_n (zC_pad Nc C) dL_law_1399 rfl 3 rfl ?_
    refine z_aload (zC_pad Nc C) dL_law_1400 9 rfl ?_
    obtain ⟨r97, er97, hF⟩ := zbd hF
    refine z_callSW (n := 3) (As := [.int v17, .ref (aw 0), .ref (aw 6)]) (ws' := (zwX7 cI cJ cZ ab a5 a3 a6 a1 a0 Bc Pc Mc Tc Kc Uc Lc ++ zwW cI cJ cZ aw (za Wc 1 s1 (s2 - s3)) Oc)) (zC_pad Nc C) (c_L_mountFor l D cI cJ cZ aw (za Wc 1 s1 (s2 - s3)) Oc v17 r97 er97) gL_law_L_mountFor rfl rfl rfl (by decide +kernel) ⟨Nat.le_of_ble_eq_true rfl, Nat.le_of_ble_eq_true rfl⟩ hf2 (zwX7 cI cJ cZ ab a5 a3 a6 a1 a0 Bc Pc Mc Tc Kc Uc Lc) [] zAs5 zAs6 rfl rfl (Nat.le_of_ble_eq_true rfl) dL_law_1402 ?_
    refine z_istore (lv' := [(20, .int r97), (19, .int ((Wc 0) (4 : Int32).toNatClampNeg)), (0, .ref b), (1, .ref ab), (2, .ref (aw 0)), (3, .ref (aw 1)), (4, .ref (aw 2)), (5, .ref (aw 3)), (6, .ref (aw 4)), (7, .ref (aw 5)), (8, .ref (aw 6)), (9, .ref (aw 7)), (10, .int v10), (11, .int v11), (14, .int v14), (17, .int v17), (18, .int v18)]) (zC_pad Nc C) dL_law_1405 (by decide) rfl ?_
    refine z_aload (zC_pad Nc C) dL_law_1407 6 rfl ?_
    refine z_iconst (v := 5) (zC_pad Nc C) dL_law_1409 (by decide) ?_
    refine z_iload (zC_pad Nc C) dL_law_1410 1 rfl ?_
    refine z_imul (zC_pad Nc C) dL_law_1412 ?_
    refine z_iload (zC_pad Nc C) dL_law_1413 14 rfl ?_
    obtain ⟨g98, hF⟩ := zix_some hF
    refine z_iast (ws' := (zwX7 cI cJ cZ ab a5 a3 a6 a1 a0 Bc Pc Mc Tc Kc Uc Lc ++ zwW cI cJ cZ aw (za (za Wc 1 s1 (s2 - s3)) 2 (5 * ((Wc 0) (4 : Int32).toNatClampNeg)) v14) Oc)) (zC_pad Nc C) g98 32 rfl rfl dL_law_1415 (za_row (za Wc 1 s1 (s2 - s3)) 2 (5 * ((Wc 0) (4 : Int32).toNatClampNeg)) v14) (zq_W_2 cI cJ cZ ab a5 a3 a6 a1 a0 Bc Pc Mc Tc Kc Uc Lc aw (za Wc 1 s1 (s2 - s3)) Oc (5 * ((Wc 0) (4 : Int32).toNatClampNeg)) v14) ?_
    refine z_aload (zC_pad Nc C) dL_law_1416 6 rfl ?_
    refine z_iconst (v := 5) (zC_pad Nc C) dL_law_1418 (by decide) ?_
    refine z_iload (zC_pad Nc C) dL_law_1419 1 rfl ?_
    refine z_imul (zC_pad Nc C) dL_law_1421 ?_
    refine z_iconst (v := 1) (zC_pad Nc C) dL_law_1422 (by decide) ?_
    refine z_iadd (zC_pad Nc C) dL_law_1423 ?_
    refine z_iload (zC_pad Nc C) dL_law_1424 15 rfl ?_
    obtain ⟨g99, hF⟩ := zix_some hF
    refine z_iast (ws' := (zwX7 cI cJ cZ ab a5 a3 a6 a1 a0 Bc Pc Mc Tc Kc Uc Lc ++ zwW cI cJ cZ aw (za (za (za Wc 1 s1 (s2 - s3)) 2 (5 * ((Wc 0) (4 : Int32).toNatClampNeg)) v14) 2 ((5 * ((Wc 0) (4 : Int32).toNatClampNeg)) + 1) v17) Oc)) (zC_pad Nc C) g99 32 rfl rfl dL_law_1426 (za_row (za (za Wc 1 s1 (s2 - s3)) 2 (5 * ((Wc 0) (4 : Int32).toNatClampNeg)) v14) 2 ((5 * ((Wc 0) (4 : Int32).toNatClampNeg)) + 1) v17) (zq_W_2 cI cJ cZ ab a5 a3 a6 a1 a0 Bc Pc Mc Tc Kc Uc Lc aw (za (za Wc 1 s1 (s2 - s3)) 2 (5 * ((Wc 0) (4 : Int32).toNatClampNeg)) v14) Oc ((5 * ((Wc 0) (4 : Int32).toNatClampNeg)) + 1) v17) ?_
    refine z_aload (zC_pad Nc C) dL_law_1427 6 rfl ?_
    refine z_iconst (v := 5) (zC_pad Nc C) dL_law_1429 (by decide) ?_
    refine z_iload (zC_pad Nc C) dL_law_1430 1 rfl ?_
    refine z_imul (zC_pad Nc C) dL_law_1432 ?_
    refine z_iconst (v := 2) (zC_pad Nc C) dL_law_1433 (by decide) ?_
    refine z_iadd (zC_pad Nc C) dL_law_1434 ?_
    refine z_aload_n (zC_pad Nc C) dL_law_1435 rfl 4 rfl ?_
    refine z_iconst (v := 0) (zC_pad Nc C) dL_law_1436 (by decide) ?_
    obtain ⟨g100, hF⟩ := zix_some hF
    refine z_iald (v := ((Wc 0) (0 : Int32).toNatClampNeg)) (zC_pad Nc C) g100 30 rfl rfl rfl dL_law_1437 ?_
    refine z_aload (zC_pad Nc C) dL_law_1438 10 rfl ?_
    refine z_iconst (v := 3) (zC_pad Nc C) dL_law_1440 (by decide) ?_
    refine z_iload (zC_pad Nc C) dL_law_1441 0 rfl ?_
    refine z_imul (zC_pad Nc C) dL_law_1443 ?_
    refine z_iconst (v := 1) (zC_pad Nc C) dL_law_1444 (by decide) ?_
    refine z_iadd (zC_pad Nc C) dL_law_1445 ?_
    obtain ⟨g101, hF⟩ := zix_some hF
    refine z_iald (v := ((Wc 6) ((3 * r97) + 1).toNatClampNeg)) (zC_pad Nc C) g101 36 rfl rfl rfl dL_law_1446 ?_
    refine z_iadd (zC_pad Nc C) dL_law_1447 ?_
    obtain ⟨g102, hF⟩ := zix_some hF
    refine z_iast (ws' := (zwX7 cI cJ cZ ab a5 a3 a6 a1 a0 Bc Pc Mc Tc Kc Uc Lc ++ zwW cI cJ cZ aw (za (za (za (za Wc 1 s1 (s2 - s3)) 2 (5 * ((Wc 0) (4 : Int32).toNatClampNeg)) v14) 2 ((5 * ((Wc 0) (4 : Int32).toNatClampNeg)) + 1) v17) 2 ((5 * ((Wc 0) (4 : Int32).toNatClampNeg)) + 2) (((Wc 0) (0 : Int32).toNatClampNeg) + ((Wc 6) ((3 * r97) + 1).toNatClampNeg))) Oc)) (zC_pad Nc C) g102 32 rfl rfl dL_law_1448 (za_row (za (za (za Wc 1 s1 (s2 - s3)) 2 (5 * ((Wc 0) (4 : Int32).toNatClampNeg)) v14) 2 ((5 * ((Wc 0) (4 : Int32).toNatClampNeg)) + 1) v17) 2 ((5 * ((Wc 0) (4 : Int32).toNatClampNeg)) + 2) (((Wc 0) (0 : Int32).toNatClampNeg) + ((Wc 6) ((3 * r97) + 1).toNatClampNeg))) (zq_W_2 cI cJ cZ ab a5 a3 a6 a1 a0 Bc Pc Mc Tc Kc Uc Lc aw (za (za (za Wc 1 s1 (s2 - s3)) 2 (5 * ((Wc 0) (4 : Int32).toNatClampNeg)) v14) 2 ((5 * ((Wc 0) (4 : Int32).toNatClampNeg)) + 1) v17) Oc ((5 * ((Wc 0) (4 : Int32).toNatClampNeg)) + 2) (((Wc 0) (0 : Int32).toNatClampNeg) + ((Wc 6) ((3 * r97) + 1).toNatClampNeg))) ?_
    refine z_aload (zC_pad Nc C) dL_law_1449 6 rfl ?_
    refine z_iconst (v := 5) (zC_pad Nc C) dL_law_1451 (by decide) ?_
    refine z_iload (zC_pad Nc C) dL_law_1452 1 rfl ?_
    refine z_imul (zC_pad Nc C) dL_law_1454 ?_
    refine z_iconst (v := 3) (zC_pad Nc C) dL_law_1455 (by decide) ?_
    refine z_iadd (zC_pad Nc C) dL_law_1456 ?_
    refine z_aload_n (zC_pad Nc C) dL_law_1457 rfl 4 rfl ?_
    refine z_iconst (v := 0) (zC_pad Nc C) dL_law_1458 (by decide) ?_
    obtain ⟨g103, hF⟩ := zix_some hF
    refine z_iald (v := ((Wc 0) (0 : Int32).toNatClampNeg)) (zC_pad Nc C) g103 30 rfl rfl rfl dL_law_1459 ?_
    refine z_aload (zC_pad Nc C) dL_law_1460 10 rfl ?_
    refine z_iconst (v := 3) (zC_pad Nc C) dL_law_1462 (by decide) ?_
    refine z_iload (zC_pad Nc C) dL_law_1463 0 rfl ?_
    refine z_imul (zC_pad Nc C) dL_law_1465 ?_
    refine z_iconst (v := 2) (zC_pad Nc C) dL_law_1466 (by decide) ?_
    refine z_iadd (zC_pad Nc C) dL_law_1467 ?_
    obtain ⟨g104, hF⟩ := zix_some hF
    refine z_iald (v := ((Wc 6) ((3 * r97) + 2).toNatClampNeg)) (zC_pad Nc C) g104 36 rfl rfl rfl dL_law_1468 ?_
    refine z_iadd (zC_pad Nc C) dL_law_1469 ?_
    obtain ⟨g105, hF⟩ := zix_some hF
    refine z_iast (ws' := (zwX7 cI cJ cZ ab a5 a3 a6 a1 a0 Bc Pc Mc Tc Kc Uc Lc ++ zwW cI cJ cZ aw (za (za (za (za (za Wc 1 s1 (s2 - s3)) 2 (5 * ((Wc 0) (4 : Int32).toNatClampNeg)) v14) 2 ((5 * ((Wc 0) (4 : Int32).toNatClampNeg)) + 1) v17) 2 ((5 * ((Wc 0) (4 : Int32).toNatClampNeg)) + 2) (((Wc 0) (0 : Int32).toNatClampNeg) + ((Wc 6) ((3 * r97) + 1).toNatClampNeg))) 2 ((5 * ((Wc 0) (4 : Int32).toNatClampNeg)) + 3) (((Wc 0) (0 : Int32).toNatClampNeg) + ((Wc 6) ((3 * r97) + 2).toNatClampNeg))) Oc)) (zC_pad Nc C) g105 32 rfl rfl dL_law_1470 (za_row (za (za (za (za Wc 1 s1 (s2 - s3)) 2 (5 * ((Wc 0) (4 : Int32).toNatClampNeg)) v14) 2 ((5 * ((Wc 0) (4 : Int32).toNatClampNeg)) + 1) v17) 2 ((5 * ((Wc 0) (4 : Int32).toNatClampNeg)) + 2) (((Wc 0) (0 : Int32).toNatClampNeg) + ((Wc 6) ((3 * r97) + 1).toNatClampNeg))) 2 ((5 * ((Wc 0) (4 : Int32).toNatClampNeg)) + 3) (((Wc 0) (0 : Int32).toNatClampNeg) + ((Wc 6) ((3 * r97) + 2).toNatClampNeg))) (zq_W_2 cI cJ cZ ab a5 a3 a6 a1 a0 Bc Pc Mc Tc Kc Uc Lc aw (za (za (za (za Wc 1 s1 (s2 - s3)) 2 (5 * ((Wc 0) (4 : Int32).toNatClampNeg)) v14) 2 ((5 * ((Wc 0) (4 : Int32).toNatClampNeg)) + 1) v17) 2 ((5 * ((Wc 0) (4 : Int32).toNatClampNeg)) + 2) (((Wc 0) (0 : Int32).toNatClampNeg) + ((Wc 6) ((3 * r97) + 1).toNatClampNeg))) Oc ((5 * ((Wc 0) (4 : Int32).toNatClampNeg)) + 3) (((Wc 0) (0 : Int32).toNatClampNeg) + ((Wc 6) ((3 * r97) + 2).toNatClampNeg))) ?_
    refine z_aload_n (zC_pad Nc C) dL_law_1471 rfl 4 rfl ?_
    refine z_iconst (v := 4) (zC_pad Nc C) dL_law_1472 (by decide) ?_
    refine z_iload (zC_pad Nc C) dL_law_1473 1 rfl ?_
    refine z_iconst (v := 1) (zC_pad Nc C) dL_law_1475 (by decide) ?_
    refine z_iadd (zC_pad Nc C) dL_law_1476 ?_
    obtain ⟨g106, hF⟩ := zix_some hF
    refine z_iast (ws' := (zwX7 cI cJ cZ ab a5 a3 a6 a1 a0 Bc Pc Mc Tc Kc Uc Lc ++ zwW cI cJ cZ aw (za (za (za (za (za (za Wc 1 s1 (s2 - s3)) 2 (5 * ((Wc 0) (4 : Int32).toNatClampNeg)) v14) 2 ((5 * ((Wc 0) (4 : Int32).toNatClampNeg)) + 1) v17) 2 ((5 * ((Wc 0) (4 : Int32).toNatClampNeg)) + 2) (((Wc 0) (0 : Int32).toNatClampNeg) + ((Wc 6) ((3 * r97) + 1).toNatClampNeg))) 2 ((5 * ((Wc 0) (4 : Int32).toNatClampNeg)) + 3) (((Wc 0) (0 : Int32).toNatClampNeg) + ((Wc 6) ((3 * r97) + 2).toNatClampNeg))) 0 4 (((Wc 0) (4 : Int32).toNatClampNeg) + 1)) Oc)) (zC_pad Nc C) g106 30 rfl rfl dL_law_1477 (za_row (za (za (za (za (za Wc 1 s1 (s2 - s3)) 2 (5 * ((Wc 0) (4 : Int32).toNatClampNeg)) v14) 2 ((5 * ((Wc 0) (4 : Int32).toNatClampNeg)) + 1) v17) 2 ((5 * ((Wc 0) (4 : Int32).toNatClampNeg)) + 2) (((Wc 0) (0 : Int32).toNatClampNeg) + ((Wc 6) ((3 * r97) + 1).toNatClampNeg))) 2 ((5 * ((Wc 0) (4 : Int32).toNatClampNeg)) + 3) (((Wc 0) (0 : Int32).toNatClampNeg) + ((Wc 6) ((3 * r97) + 2).toNatClampNeg))) 0 4 (((Wc 0) (4 : Int32).toNatClampNeg) + 1)) (zq_W_0 cI cJ cZ ab a5 a3 a6 a1 a0 Bc Pc Mc Tc Kc Uc Lc aw (za (za (za (za (za Wc 1 s1 (s2 - s3)) 2 (5 * ((Wc 0) (4 : Int32).toNatClampNeg)) v14) 2 ((5 * ((Wc 0) (4 : Int32).toNatClampNeg)) + 1) v17) 2 ((5 * ((Wc 0) (4 : Int32).toNatClampNeg)) + 2) (((Wc 0) (0 : Int32).toNatClampNeg) + ((Wc 6) ((3 * r97) + 1).toNatClampNeg))) 2 ((5 * ((Wc 0) (4 : Int32).toNatClampNeg)) + 3) (((Wc 0) (0 : Int32).toNatClampNeg) + ((Wc 6) ((3 * r97) + 2).toNatClampNeg))) Oc 4 (((Wc 0) (4 : Int32).toNatClampNeg) + 1)) ?_
    exact z_sub (zC_pad Nc C) [2, 3, 4, 5, 6, 7, 8, 9, 10, 11, 12, 13, 14, 15, 16, 1] rfl (c_L_law_j1478 l hl D cI cJ cZ ab a5 a3 a6 a1 a0 aw u C XE XN hX hbl cl sl (by omega) (by omega) k100 hk100 Bc Pc Mc Tc Kc Uc Lc (za (za (za (za (za (za Wc 1 s1 (s2 - s3)) 2 (5 * ((Wc 0) (4 : Int32).toNatClampNeg)) v14) 2 ((5 * ((Wc 0) (4 : Int32).toNatClampNeg)) + 1) v17) 2 ((5 * ((Wc 0) (4 : Int32).toNatClampNeg)) + 2) (((Wc 0) (0 : Int32).toNatClampNeg) + ((Wc 6) ((3 * r97) + 1).toNatClampNeg))) 2 ((5 * ((Wc 0) (4 : Int32).toNatClampNeg)) + 3) (((Wc 0) (0 : Int32).toNatClampNeg) + ((Wc 6) ((3 * r97) + 2).toNatClampNeg))) 0 4 (((Wc 0) (4 : Int32).toNatClampNeg) + 1)) Oc Nc v10 v11 v14 v17 v18 ((Wc 0) (4 : Int32).toNatClampNeg) hF)
set_option maxHeartbeats 4000000 in
set_option maxRecDepth 100000 in
theorem c_L_law_j1384 (l : Launch) (hl : l.stackTraces = false) (D : va_G) (cI cJ cZ : ClassId) (ab : Nat) (a5 a3 a6 a1 a0 aw : Nat → Nat) (u : Nat) {p : Program} {e : Env} {s : State} {m : MethodId} {below : List Frame} {meth : Method} {c : Code} {b sL : Nat} {xs : Nat → Int32} (C : zC p s m #[.ref b] meth c cL_law 22 ret RL wsL_law D (zTy cI cJ cZ) (zAq s) s.heap) (XE : zE (zAq s) s s.heap) (XN : zN s) (hX : va_X b sL xs s s.heap) (hbl : b < s.heap.size) (cl sl : Nat) (hc : cl + 6 ≤ 8000) (hs : sl + 36 ≤ 60000) (k100 : SS → SS → SS → SS → SS → SS → SL → SS → SL → Nat → Int32 → Option Nat) (hk100 : ∀ (Bc : SS) (Pc : SS) (Mc : SS) (Tc : SS) (Kc : SS) (Uc : SS) (Lc : SL) (Wc : SS) (Oc : SL) (Nc : Nat) (v10 : Int32), k100 Bc Pc Mc Tc Kc Uc Lc Wc Oc Nc v10 = some u → zW p l e room_R s m #[.ref b] below meth c 22 D (zAq s) (zpad s.heap Nc) (cl + 6) (sl + 36) (lw_Z2 below s u) (zwX7 cI cJ cZ ab a5 a3 a6 a1 a0 Bc Pc Mc Tc Kc Uc Lc ++ zwW cI cJ cZ aw Wc Oc) [(0, .ref b), (1, .ref ab), (2, .ref (aw 0)), (3, .ref (aw 1)), (4, .ref (aw 2)), (5, .ref (aw 3)), (6, .ref (aw 4)), (7, .ref (aw 5)), (8, .ref (aw 6)), (9, .ref (aw 7)), (10, .int v10)] 100 []) (Bc : SS) (Pc : SS) (Mc : SS) (Tc : SS) (Kc : SS) (Uc : SS) (Lc : SL) (Wc : SS) (Oc : SL) (Nc : Nat) (v10 : Int32) (v11 : Int32) (v14 : Int32) (v17 : Int32) (v18 : Int32) (s1 : Int32) (s2 : Int32) (hF : f_L_law_1384 xs sL k100 Bc Pc Mc Tc Kc Uc Lc Wc Oc Nc v10 v11 v14 v17 v18 s1 s2 = some u) : zW p l e room_R s m #[.ref b] below meth c 22 D (zAq s) (zpad s.heap Nc) (cl + 2) (sl + 12) (lw_Z2 below s u) (zwX7 cI cJ cZ ab a5 a3 a6 a1 a0 Bc Pc Mc Tc Kc Uc Lc ++ zwW cI cJ cZ aw Wc Oc) [(0, .ref b), (1, .ref ab), (2, .ref (aw 0)), (3, .ref (aw 1)), (4, .ref (aw 2)), (5, .ref (aw 3)), (6, .ref (aw 4)), (7, .ref (aw 5)), (8, .ref (aw 6)), (9, .ref (aw 7)), (10, .int v10), (11, .int v11), (14, .int v14), (17, .int v17), (18, .int v18)] 1384 [.int s2, .int s1, .ref (aw 1)] := by
  unfold f_L_law_1384 at hF
  have hf0 : cl + 0 ≤ room_R.cells ∧ sl + 0 ≤ room_R.slots := ⟨by show _ ≤ 8000; omega, by show _ ≤ 60000; omega⟩
  have hf1 : cl + 1 ≤ room_R.cells ∧ sl + 6 ≤ room_R.slots := ⟨by show _ ≤ 8000; omega, by show _ ≤ 60000; omega⟩
  have hf2 : cl + 2 ≤ room_R.cells ∧ sl + 12 ≤ room_R.slots := ⟨by show _ ≤ 8000; omega, by show _ ≤ 60000; omega⟩
  have hf3 : cl + 3 ≤ room_R.cells ∧ sl + 18 ≤ room_R.slots := ⟨by show _ ≤ 8000; omega, by show _ ≤ 60000; omega⟩
  have hf4 : cl + 4 ≤ room_R.cells ∧ sl + 24 ≤ room_R.slots := ⟨by show _ ≤ 8000; omega, by show _ ≤ 60000; omega⟩
  have hf5 : cl + 5 ≤ room_R.cells ∧ sl + 30 ≤ room_R.slots := ⟨by show _ ≤ 8000; omega, by show _ ≤ 60000; omega⟩
  have hf6 : cl + 6 ≤ room_R.cells ∧ sl + 36 ≤ room_R.slots := ⟨by show _ ≤ 8000; omega, by show _ ≤ 60000; omega⟩
  have hbA : ¬ zAq s b := Nat.not_le.mpr hbl
  refine z_iconst (v := 0) (zC_pad Nc C) dL_law_1384 (by decide) ?_
  exact c_L_law_j1385 l hl D cI cJ cZ ab a5 a3 a6 a1 a0 aw u C XE XN hX hbl cl sl (by omega) (by omega) k100 hk100 Bc Pc Mc Tc Kc Uc Lc Wc Oc Nc v10 v11 v14 v17 v18 s1 s2 0 hF
set_option maxHeartbeats 4000000 in
set_option maxRecDepth 100000 in
theorem c_L_law_j1315 (l : Launch) (hl : l.stackTraces = false) (D : va_G) (cI cJ cZ : ClassId) (ab : Nat) (a5 a3 a6 a1 a0 aw : Nat → Nat) (u : Nat) {p : Program} {e : Env} {s : State} {m : MethodId} {below : List Frame} {meth : Method} {c : Code} {b sL : Nat} {xs : Nat → Int32} (C : zC p s m #[.ref b] meth c cL_law 22 ret RL wsL_law D (zTy cI cJ cZ) (zAq s) s.heap) (XE : zE (zAq s) s s.heap) (XN : zN s) (hX : va_X b sL xs s s.heap) (hbl : b < s.heap.size) (cl sl : Nat) (hc : cl + 6 ≤ 8000) (hs : sl + 36 ≤ 60000) (k100 : SS → SS → SS → SS → SS → SS → SL → SS → SL → Nat → Int32 → Option Nat) (hk100 : ∀ (Bc : SS) (Pc : SS) (Mc : SS) (Tc : SS) (Kc : SS) (Uc : SS) (Lc : SL) (Wc : SS) (Oc : SL) (Nc : Nat) (v10 : Int32), k100 Bc Pc Mc Tc Kc Uc Lc Wc Oc Nc v10 = some u → zW p l e room_R s m #[.ref b] below meth c 22 D (zAq s) (zpad s.heap Nc) (cl + 6) (sl + 36) (lw_Z2 below s u) (zwX7 cI cJ cZ ab a5 a3 a6 a1 a0 Bc Pc Mc Tc Kc Uc Lc ++ zwW cI cJ cZ aw Wc Oc) [(0, .ref b), (1, .ref ab), (2, .ref (aw 0)), (3, .ref (aw 1)), (4, .ref (aw 2)), (5, .ref (aw 3)), (6, .ref (aw 4)), (7, .ref (aw 5)), (8, .ref (aw 6)), (9, .ref (aw 7)), (10, .int v10)] 100 []) (Bc : SS) (Pc : SS) (Mc : SS) (Tc : SS) (Kc : SS) (Uc : SS) (Lc : SL) (Wc : SS) (Oc : SL) (Nc : Nat) (v10 : Int32) (v11 : Int32) (v14 : Int32) (v15 : Int32) (v17 : Int32) (v18 : Int32) (hF : f_L_law_1315 xs sL k100 Bc Pc Mc Tc Kc Uc Lc Wc Oc Nc v10 v11 v14 v15 v17 v18 = some u) : zW p l e room_R s m #[.ref b] below meth c 22 D (zAq s) (zpad s.heap Nc) (cl + 2) (sl + 12) (lw_Z2 below s u) (zwX7 cI cJ cZ ab a5 a3 a6 a1 a0 Bc Pc Mc Tc Kc Uc Lc ++ zwW cI cJ cZ aw Wc Oc) [(0, .ref b), (1, .ref ab), (2, .ref (aw 0)), (3, .ref (aw 1)), (4, .ref (aw 2)), (5, .ref (aw 3)), (6, .ref (aw 4)), (7, .ref (aw 5)), (8, .ref (aw 6)), (9, .ref (aw 7)), (10, .int v10), (11, .int v11), (14, .int v14), (15, .int v15), (17, .int v17), (18, .int v18)] 1315 [] := by
  unfold f_L_law_1315 at hF
  have hf0 : cl + 0 ≤ room_R.cells ∧ sl + 0 ≤ room_R.slots := ⟨by show _ ≤ 8000; omega, by show _ ≤ 60000; omega⟩
  have hf1 : cl + 1 ≤ room_R.cells ∧ sl + 6 ≤ room_R.slots := ⟨by show _ ≤ 8000; omega, by show _ ≤ 60000; omega⟩
  have hf2 : cl + 2 ≤ room_R.cells ∧ sl + 12 ≤ room_R.slots := ⟨by show _ ≤ 8000; omega, by show _ ≤ 60000; omega⟩
  have hf3 : cl + 3 ≤ room_R.cells ∧ sl + 18 ≤ room_R.slots := ⟨by show _ ≤ 8000; omega, by show _ ≤ 60000; omega⟩
  have hf4 : cl + 4 ≤ room_R.cells ∧ sl + 24 ≤ room_R.slots := ⟨by show _ ≤ 8000; omega, by show _ ≤ 60000; omega⟩
  have hf5 : cl + 5 ≤ room_R.cells ∧ sl + 30 ≤ room_R.slots := ⟨by show _ ≤ 8000; omega, by show _ ≤ 60000; omega⟩
  have hf6 : cl + 6 ≤ room_R.cells ∧ sl + 36 ≤ room_R.slots := ⟨by show _ ≤ 8000; omega, by show _ ≤ 60000; omega⟩
  have hbA : ¬ zAq s b := Nat.not_le.mpr hbl
  refine z_aload_n (zC_pad Nc C) dL_law_1315 rfl 1 rfl ?_
  refine z_iload (zC_pad Nc C) dL_law_1316 12 rfl ?_
  refine z_iload (zC_pad Nc C) dL_law_1318 14 rfl ?_
  obtain ⟨r80, er80, hF⟩ := zok_some hF
  refine z_gcallV_R (n := 2) (As := [.int v14, .int v17]) (ws' := (zwX7 cI cJ cZ ab a5 a3 a6 a1 a0 Bc Pc Mc Tc Kc Uc Lc ++ zwW cI cJ cZ aw Wc Oc)) (zC_pad Nc C) C XE (zhb_p C) (c_X7_whyDenied l hl D cI cJ cZ ab a5 a3 a6 a1 a0 Bc Pc Mc Tc Kc Uc Lc v14 v17 (.inr r80) er80) gL_law_X7_whyDenied rfl (by decide +kernel) ⟨Nat.le_of_ble_eq_true rfl, Nat.le_of_ble_eq_true rfl⟩ hf2 0 rfl rfl [] (zwW cI cJ cZ aw Wc Oc) rfl rfl rfl rfl (Nat.le_of_ble_eq_true rfl) dL_law_1320 ?_
  refine z_iload (zC_pad Nc C) dL_law_1323 15 rfl ?_
  refine z_icmp_ne (tgt := 1353) (zC_pad Nc C) dL_law_1325 (by decide) (fun c81 => ?_) (fun c81 => ?_)
  · have hF := zelse hF c81
    refine z_iconst (v := 0) (zC_pad Nc C) dL_law_1353 (by decide) ?_
    exact absurd hF (fun q => nomatch q)
  · have hF := zif hF c81
    refine z_aload_n (zC_pad Nc C) dL_law_1328 rfl 1 rfl ?_
    refine z_iload (zC_pad Nc C) dL_law_1329 12 rfl ?_
    refine z_iload (zC_pad Nc C) dL_law_1331 14 rfl ?_
    obtain ⟨r82, er82, hF⟩ := zok_some hF
    refine z_gcallV_R (n := 2) (As := [.int v14, .int v17]) (ws' := (zwX7 cI cJ cZ ab a5 a3 a6 a1 a0 Bc Pc Mc Tc Kc Uc Lc ++ zwW cI cJ cZ aw Wc Oc)) (zC_pad Nc C) C XE (zhb_p C) (c_X7_capabilities l hl D cI cJ cZ ab a5 a3 a6 a1 a0 Bc Pc Mc Tc Kc Uc Lc v14 v17 (.inr r82) er82) gL_law_X7_capabilities rfl (by decide +kernel) ⟨Nat.le_of_ble_eq_true rfl, Nat.le_of_ble_eq_true rfl⟩ hf2 0 rfl rfl [] (zwW cI cJ cZ aw Wc Oc) rfl rfl rfl rfl (Nat.le_of_ble_eq_true rfl) dL_law_1333 ?_
    refine z_iload (zC_pad Nc C) dL_law_1336 12 rfl ?_
    refine z_iload (zC_pad Nc C) dL_law_1338 14 rfl ?_
    refine z_aload_n (zC_pad Nc C) dL_law_1340 rfl 3 rfl ?_
    refine z_aload (zC_pad Nc C) dL_law_1341 5 rfl ?_
    refine z_aload (zC_pad Nc C) dL_law_1343 6 rfl ?_
    refine z_aload (zC_pad Nc C) dL_law_1345 7 rfl ?_
    obtain ⟨r83, er83, hF⟩ := zbd hF
    refine z_callSW (n := 6) (As := [.int v14, .int v17, .ref (aw 1), .ref (aw 3), .ref (aw 4), .ref (aw 5)]) (ws' := (zwX7 cI cJ cZ ab a5 a3 a6 a1 a0 Bc Pc Mc Tc Kc Uc Lc ++ zwW cI cJ cZ aw Wc Oc)) (zC_pad Nc C) (c_L_can l D cI cJ cZ aw Wc Oc v14 v17 r83 er83) gL_law_L_can rfl rfl rfl (by decide +kernel) ⟨Nat.le_of_ble_eq_true rfl, Nat.le_of_ble_eq_true rfl⟩ hf2 (zwX7 cI cJ cZ ab a5 a3 a6 a1 a0 Bc Pc Mc Tc Kc Uc Lc) [] zAs5 zAs6 rfl rfl (Nat.le_of_ble_eq_true rfl) dL_law_1347 ?_
    refine z_icmp_eq (tgt := 1355) (zC_pad Nc C) dL_law_1350 (by decide) (fun c84 => ?_) (fun c84 => ?_)
    · have hF := zif hF c84
      refine z_aload_n (zC_pad Nc C) dL_law_1355 rfl 3 rfl ?_
      refine z_iconst (v := 5) (zC_pad Nc C) dL_law_1356 (by decide) ?_
      refine z_iload (zC_pad Nc C) dL_law_1357 12 rfl ?_
      refine z_imul (zC_pad Nc C) dL_law_1359 ?_
      refine z_iconst (v := 4) (zC_pad Nc C) dL_law_1360 (by decide) ?_
      refine z_iadd (zC_pad Nc C) dL_law_1361 ?_
      refine z_dup2 (zC_pad Nc C) dL_law_1362 rfl rfl ?_
      obtain ⟨g85, hF⟩ := zix_some hF
      refine z_iald (v := ((Wc 1) ((5 * v14) + 4).toNatClampNeg)) (zC_pad Nc C) g85 31 rfl rfl rfl dL_law_1363 ?_
      refine z_iload (zC_pad Nc C) dL_law_1364 13 rfl ?_
      refine z_if_eq (tgt := 1384) (zC_pad Nc C) dL_law_1366 (by decide) (fun c86 => ?_) (fun c86 => ?_)
      · have hF := zif hF c86
        exact z_sub (zC_pad Nc C) [0, 1, 2, 3, 4, 5, 6, 7, 8, 9, 10, 11, 12, 14, 15] rfl (c_L_law_j1384 l hl D cI cJ cZ ab a5 a3 a6 a1 a0 aw u C XE XN hX hbl cl sl (by omega) (by omega) k100 hk100 Bc Pc Mc Tc Kc Uc Lc Wc Oc Nc v10 v11 v14 v17 v18 ((5 * v14) + 4) ((Wc 1) ((5 * v14) + 4).toNatClampNeg) hF)
      · have hF := zelse hF c86
        refine z_aload_n (zC_pad Nc C) dL_law_1369 rfl 3 rfl ?_
        refine z_iconst (v := 5) (zC_pad Nc C) dL_law_1370 (by decide) ?_
        refine z_iload (zC_pad Nc C) dL_law_1371 12 rfl ?_
        refine z_imul (zC_pad Nc C) dL_law_1373 ?_
        refine z_iconst (v := 4) (zC_pad Nc C) dL_law_1374 (by decide) ?_
        refine z_iadd (zC_pad Nc C) dL_law_1375 ?_
        obtain ⟨g107, hF⟩ := zix_some hF
        refine z_iald (v := ((Wc 1) ((5 * v14) + 4).toNatClampNeg)) (zC_pad Nc C) g107 31 rfl rfl rfl dL_law_1376 ?_
        refine z_if_le (tgt := 1384) (zC_pad Nc C) dL_law_1377 (by decide) (fun c108 => ?_) (fun c108 => ?_)
        · have hF := zif hF c108
          exact z_sub (zC_pad Nc C) [0, 1, 2, 3, 4, 5, 6, 7, 8, 9, 10, 11, 12, 14, 15] rfl (c_L_law_j1384 l hl D cI cJ cZ ab a5 a3 a6 a1 a0 aw u C XE XN hX hbl cl sl (by omega) (by omega) k100 hk100 Bc Pc Mc Tc Kc Uc Lc Wc Oc Nc v10 v11 v14 v17 v18 ((5 * v14) + 4) ((Wc 1) ((5 * v14) + 4).toNatClampNeg) hF)
        · have hF := zelse hF c108
          refine z_iconst (v := 1) (zC_pad Nc C) dL_law_1380 (by decide) ?_
          refine z_goto (tgt := 1385) (zC_pad Nc C) dL_law_1381 (by decide) ?_
          exact z_sub (zC_pad Nc C) [0, 1, 2, 3, 4, 5, 6, 7, 8, 9, 10, 11, 12, 14, 15] rfl (c_L_law_j1385 l hl D cI cJ cZ ab a5 a3 a6 a1 a0 aw u C XE XN hX hbl cl sl (by omega) (by omega) k100 hk100 Bc Pc Mc Tc Kc Uc Lc Wc Oc Nc v10 v11 v14 v17 v18 ((5 * v14) + 4) ((Wc 1) ((5 * v14) + 4).toNatClampNeg) 1 hF)
    · have hF := zelse hF c84
      refine z_iconst (v := 0) (zC_pad Nc C) dL_law_1353 (by decide) ?_
      exact absurd hF (fun q => nomatch q)
set_option maxHeartbeats 4000000 in
set_option maxRecDepth 100000 in
theorem c_L_law_j1104 (l : Launch) (hl : l.stackTraces = false) (D : va_G) (cI cJ cZ : ClassId) (ab : Nat) (a5 a3 a6 a1 a0 aw : Nat → Nat) (u : Nat) {p : Program} {e : Env} {s : State} {m : MethodId} {below : List Frame} {meth : Method} {c : Code} {b sL : Nat} {xs : Nat → Int32} (C : zC p s m #[.ref b] meth c cL_law 22 ret RL wsL_law D (zTy cI cJ cZ) (zAq s) s.heap) (XE : zE (zAq s) s s.heap) (XN : zN s) (hX : va_X b sL xs s s.heap) (hbl : b < s.heap.size) (cl sl : Nat) (hc : cl + 6 ≤ 8000) (hs : sl + 36 ≤ 60000) (k100 : SS → SS → SS → SS → SS → SS → SL → SS → SL → Nat → Int32 → Option Nat) (hk100 : ∀ (Bc : SS) (Pc : SS) (Mc : SS) (Tc : SS) (Kc : SS) (Uc : SS) (Lc : SL) (Wc : SS) (Oc : SL) (Nc : Nat) (v10 : Int32), k100 Bc Pc Mc Tc Kc Uc Lc Wc Oc Nc v10 = some u → zW p l e room_R s m #[.ref b] below meth c 22 D (zAq s) (zpad s.heap Nc) (cl + 6) (sl + 36) (lw_Z2 below s u) (zwX7 cI cJ cZ ab a5 a3 a6 a1 a0 Bc Pc Mc Tc Kc Uc Lc ++ zwW cI cJ cZ aw Wc Oc) [(0, .ref b), (1, .ref ab), (2, .ref (aw 0)), (3, .ref (aw 1)), (4, .ref (aw 2)), (5, .ref (aw 3)), (6, .ref (aw 4)), (7, .ref (aw 5)), (8, .ref (aw 6)), (9, .ref (aw 7)), (10, .int v10)] 100 []) (Bc : SS) (Pc : SS) (Mc : SS) (Tc : SS) (Kc : SS) (Uc : SS) (Lc : SL) (Wc : SS) (Oc : SL) (Nc : Nat) (v10 : Int32) (v14 : Int32) (v17 : Int32) (hF : f_L_law_1104 xs sL k100 Bc Pc Mc Tc Kc Uc Lc Wc Oc Nc v10 v14 v17 = some u) : zW p l e room_R s m #[.ref b] below meth c 22 D (zAq s) (zpad s.heap Nc) (cl + 2) (sl + 12) (lw_Z2 below s u) (zwX7 cI cJ cZ ab a5 a3 a6 a1 a0 Bc Pc Mc Tc Kc Uc Lc ++ zwW cI cJ cZ aw Wc Oc) [(0, .ref b), (1, .ref ab), (2, .ref (aw 0)), (3, .ref (aw 1)), (4, .ref (aw 2)), (5, .ref (aw 3)), (6, .ref (aw 4)), (7, .ref (aw 5)), (8, .ref (aw 6)), (9, .ref (aw 7)), (10, .int v10), (14, .int v14), (17, .int v17)] 1104 [] := by
  unfold f_L_law_1104 at hF
  have hf0 : cl + 0 ≤ room_R.cells ∧ sl + 0 ≤ room_R.slots := ⟨by show _ ≤ 8000; omega, by show _ ≤ 60000; omega⟩
  have hf1 : cl + 1 ≤ room_R.cells ∧ sl + 6 ≤ room_R.slots := ⟨by show _ ≤ 8000; omega, by show _ ≤ 60000; omega⟩
  have hf2 : cl + 2 ≤ room_R.cells ∧ sl + 12 ≤ room_R.slots := ⟨by show _ ≤ 8000; omega, by show _ ≤ 60000; omega⟩
  have hf3 : cl + 3 ≤ room_R.cells ∧ sl + 18 ≤ room_R.slots := ⟨by show _ ≤ 8000; omega, by show _ ≤ 60000; omega⟩
  have hf4 : cl + 4 ≤ room_R.cells ∧ sl + 24 ≤ room_R.slots := ⟨by show _ ≤ 8000; omega, by show _ ≤ 60000; omega⟩
  have hf5 : cl + 5 ≤ room_R.cells ∧ sl + 30 ≤ room_R.slots := ⟨by show _ ≤ 8000; omega, by show _ ≤ 60000; omega⟩
  have hf6 : cl + 6 ≤ room_R.cells ∧ sl + 36 ≤ room_R.slots := ⟨by show _ ≤ 8000; omega, by show _ ≤ 60000; omega⟩
  have hbA : ¬ zAq s b := Nat.not_le.mpr hbl
  refine z_aload_n (zC_pad Nc C) dL_law_1104 rfl 1 rfl ?_
  refine z_iload (zC_pad Nc C) dL_law_1105 12 rfl ?_
  refine z_if_eq (tgt := 1114) (zC_pad Nc C) dL_law_1107 (by decide) (fun c113 => ?_) (fun c113 => ?_)
  · have hF := zif hF c113
    refine z_iconst (v := 2) (zC_pad Nc C) dL_law_1114 (by decide) ?_
    refine z_iload (zC_pad Nc C) dL_law_1115 11 rfl ?_
    refine z_iconst (v := 0) (zC_pad Nc C) dL_law_1117 (by decide) ?_
    refine z_iconst (v := 0) (zC_pad Nc C) dL_law_1118 (by decide) ?_
    obtain ⟨r114, er114, hF⟩ := zbd hF
    refine z_gcallH (N := Nc) (n := 5) (As := [.ref ab, .int 2, .int v14, .int 0, .int 0]) (ws' := (zwX7 cI cJ cZ ab a5 a3 a6 a1 a0 Bc Pc Mc r114.2.1 r114.2.2.1 r114.2.2.2.1 r114.2.2.2.2 ++ zwW cI cJ cZ aw Wc Oc)) C XE XN (c_L_refused l hl D cI cJ cZ ab a5 a3 a6 a1 a0 Bc Pc Mc Tc Kc Uc Lc 2 v14 0 0 r114 er114) gL_law_L_refused rfl (by decide +kernel) ⟨Nat.le_of_ble_eq_true rfl, Nat.le_of_ble_eq_true rfl⟩ hf3 [] (zwW cI cJ cZ aw Wc Oc) rfl rfl rfl rfl (Nat.le_of_ble_eq_true rfl) dL_law_1119 ?_
    refine z_iconst (v := 2) (zC_pad (Nc + (if r114.1 = 0 then 0 else 1)) C) dL_law_1122 (by decide) ?_
    refine z_icmp_eq (tgt := 1947) (zC_pad (Nc + (if r114.1 = 0 then 0 else 1)) C) dL_law_1123 (by decide) (fun c115 => ?_) (fun c115 => ?_)
    · have hF := zif hF c115
      refine z_iinc (v := (v10 + 1)) (lv' := [(10, .int (v10 + 1)), (0, .ref b), (1, .ref ab), (2, .ref (aw 0)), (3, .ref (aw 1)), (4, .ref (aw 2)), (5, .ref (aw 3)), (6, .ref (aw 4)), (7, .ref (aw 5)), (8, .ref (aw 6)), (9, .ref (aw 7)), (14, .int v14), (17, .int v17)]) (zC_pad (Nc + (if r114.1 = 0 then 0 else 1)) C) dL_law_1947 10 rfl rfl (by decide) rfl ?_
      refine z_goto (tgt := 100) (zC_pad (Nc + (if r114.1 = 0 then 0 else 1)) C) dL_law_1950 (by decide) ?_
      refine z_iwiden (k := cl + 6) (n := sl + 36) (by omega) (by omega) ?_
      exact z_sub (zC_pad (Nc + (if r114.1 = 0 then 0 else 1)) C) [1, 2, 3, 4, 5, 6, 7, 8, 9, 10, 0] rfl (hk100 Bc Pc Mc r114.2.1 r114.2.2.1 r114.2.2.2.1 r114.2.2.2.2 Wc Oc (Nc + (if r114.1 = 0 then 0 else 1)) (v10 + 1) hF)
    · have hF := zelse hF c115
      refine z_iconst (v := 0) (zC_pad (Nc + (if r114.1 = 0 then 0 else 1)) C) dL_law_1126 (by decide) ?_
      exact absurd hF (fun q => nomatch q)
  · have hF := zelse hF c113
    refine z_iconst (v := 3) (zC_pad Nc C) dL_law_1110 (by decide) ?_
    refine z_goto (tgt := 1115) (zC_pad Nc C) dL_law_1111 (by decide) ?_
    refine z_iload (zC_pad Nc C) dL_law_1115 11 rfl ?_
    refine z_iconst (v := 0) (zC_pad Nc C) dL_law_1117 (by decide) ?_
    refine z_iconst (v := 0) (zC_pad Nc C) dL_law_1118 (by decide) ?_
    obtain ⟨r116, er116, hF⟩ := zbd hF
    refine z_gcallH (N := Nc) (n := 5) (As := [.ref ab, .int 3, .int v14, .int 0, .int 0]) (ws' := (zwX7 cI cJ cZ ab a5 a3 a6 a1 a0 Bc Pc Mc r116.2.1 r116.2.2.1 r116.2.2.2.1 r116.2.2.2.2 ++ zwW cI cJ cZ aw Wc Oc)) C XE XN (c_L_refused l hl D cI cJ cZ ab a5 a3 a6 a1 a0 Bc Pc Mc Tc Kc Uc Lc 3 v14 0 0 r116 er116) gL_law_L_refused rfl (by decide +kernel) ⟨Nat.le_of_ble_eq_true rfl, Nat.le_of_ble_eq_true rfl⟩ hf3 [] (zwW cI cJ cZ aw Wc Oc) rfl rfl rfl rfl (Nat.le_of_ble_eq_true rfl) dL_law_1119 ?_
    refine z_iconst (v := 2) (zC_pad (Nc + (if r116.1 = 0 then 0 else 1)) C) dL_law_1122 (by decide) ?_
    refine z_icmp_eq (tgt := 1947) (zC_pad (Nc + (if r116.1 = 0 then 0 else 1)) C) dL_law_1123 (by decide) (fun c117 => ?_) (fun c117 => ?_)
    · have hF := zif hF c117
      refine z_iinc (v := (v10 + 1)) (lv' := [(10, .int (v10 + 1)), (0, .ref b), (1, .ref ab), (2, .ref (aw 0)), (3, .ref (aw 1)), (4, .ref (aw 2)), (5, .ref (aw 3)), (6, .ref (aw 4)), (7, .ref (aw 5)), (8, .ref (aw 6)), (9, .ref (aw 7)), (14, .int v14), (17, .int v17)]) (zC_pad (Nc + (if r116.1 = 0 then 0 else 1)) C) dL_law_1947 10 rfl rfl (by decide) rfl ?_
      refine z_goto (tgt := 100) (zC_pad (Nc + (if r116.1 = 0 then 0 else 1)) C) dL_law_1950 (by decide) ?_
      refine z_iwiden (k := cl + 6) (n := sl + 36) (by omega) (by omega) ?_
      exact z_sub (zC_pad (Nc + (if r116.1 = 0 then 0 else 1)) C) [1, 2, 3, 4, 5, 6, 7, 8, 9, 10, 0] rfl (hk100 Bc Pc Mc r116.2.1 r116.2.2.1 r116.2.2.2.1 r116.2.2.2.2 Wc Oc (Nc + (if r116.1 = 0 then 0 else 1)) (v10 + 1) hF)
    · have hF := zelse hF c117
      refine z_iconst (v := 0) (zC_pad (Nc + (if r116.1 = 0 then 0 else 1)) C) dL_law_1126 (by decide) ?_
      exact absurd hF (fun q => nomatch q)
set_option maxHeartbeats 4000000 in
set_option maxRecDepth 100000 in
theorem c_L_law_j1234 (l : Launch) (hl : l.stackTraces = false) (D : va_G) (cI cJ cZ : ClassId) (ab : Nat) (a5 a3 a6 a1 a0 aw : Nat → Nat) (u : Nat) {p : Program} {e : Env} {s : State} {m : MethodId} {below : List Frame} {meth : Method} {c : Code} {b sL : Nat} {xs : Nat → Int32} (C : zC p s m #[.ref b] meth c cL_law 22 ret RL wsL_law D (zTy cI cJ cZ) (zAq s) s.heap) (XE : zE (zAq s) s s.heap) (XN : zN s) (hX : va_X b sL xs s s.heap) (hbl : b < s.heap.size) (cl sl : Nat) (hc : cl + 6 ≤ 8000) (hs : sl + 36 ≤ 60000) (k100 : SS → SS → SS → SS → SS → SS → SL → SS → SL → Nat → Int32 → Option Nat) (hk100 : ∀ (Bc : SS) (Pc : SS) (Mc : SS) (Tc : SS) (Kc : SS) (Uc : SS) (Lc : SL) (Wc : SS) (Oc : SL) (Nc : Nat) (v10 : Int32), k100 Bc Pc Mc Tc Kc Uc Lc Wc Oc Nc v10 = some u → zW p l e room_R s m #[.ref b] below meth c 22 D (zAq s) (zpad s.heap Nc) (cl + 6) (sl + 36) (lw_Z2 below s u) (zwX7 cI cJ cZ ab a5 a3 a6 a1 a0 Bc Pc Mc Tc Kc Uc Lc ++ zwW cI cJ cZ aw Wc Oc) [(0, .ref b), (1, .ref ab), (2, .ref (aw 0)), (3, .ref (aw 1)), (4, .ref (aw 2)), (5, .ref (aw 3)), (6, .ref (aw 4)), (7, .ref (aw 5)), (8, .ref (aw 6)), (9, .ref (aw 7)), (10, .int v10)] 100 []) (Bc : SS) (Pc : SS) (Mc : SS) (Tc : SS) (Kc : SS) (Uc : SS) (Lc : SL) (Wc : SS) (Oc : SL) (Nc : Nat) (v10 : Int32) (v11 : Int32) (v14 : Int32) (v18 : Int32) (s0 : Int32) (hF : f_L_law_1234 xs sL k100 Bc Pc Mc Tc Kc Uc Lc Wc Oc Nc v10 v11 v14 v18 s0 = some u) : zW p l e room_R s m #[.ref b] below meth c 22 D (zAq s) (zpad s.heap Nc) (cl + 2) (sl + 12) (lw_Z2 below s u) (zwX7 cI cJ cZ ab a5 a3 a6 a1 a0 Bc Pc Mc Tc Kc Uc Lc ++ zwW cI cJ cZ aw Wc Oc) [(0, .ref b), (1, .ref ab), (2, .ref (aw 0)), (3, .ref (aw 1)), (4, .ref (aw 2)), (5, .ref (aw 3)), (6, .ref (aw 4)), (7, .ref (aw 5)), (8, .ref (aw 6)), (9, .ref (aw 7)), (10, .int v10), (11, .int v11), (14, .int v14), (18, .int v18)] 1234 [.int s0] := by
  unfold f_L_law_1234 at hF
  have hf0 : cl + 0 ≤ room_R.cells ∧ sl + 0 ≤ room_R.slots := ⟨by show _ ≤ 8000; omega, by show _ ≤ 60000; omega⟩
  have hf1 : cl + 1 ≤ room_R.cells ∧ sl + 6 ≤ room_R.slots := ⟨by show _ ≤ 8000; omega, by show _ ≤ 60000; omega⟩
  have hf2 : cl + 2 ≤ room_R.cells ∧ sl + 12 ≤ room_R.slots := ⟨by show _ ≤ 8000; omega, by show _ ≤ 60000; omega⟩
  have hf3 : cl + 3 ≤ room_R.cells ∧ sl + 18 ≤ room_R.slots := ⟨by show _ ≤ 8000; omega, by show _ ≤ 60000; omega⟩
  have hf4 : cl + 4 ≤ room_R.cells ∧ sl + 24 ≤ room_R.slots := ⟨by show _ ≤ 8000; omega, by show _ ≤ 60000; omega⟩
  have hf5 : cl + 5 ≤ room_R.cells ∧ sl + 30 ≤ room_R.slots := ⟨by show _ ≤ 8000; omega, by show _ ≤ 60000; omega⟩
  have hf6 : cl + 6 ≤ room_R.cells ∧ sl + 36 ≤ room_R.slots := ⟨by show _ ≤ 8000; omega, by show _ ≤ 60000; omega⟩
  have hbA : ¬ zAq s b := Nat.not_le.mpr hbl
  refine z_istore (lv' := [(19, .int s0), (0, .ref b), (1, .ref ab), (2, .ref (aw 0)), (3, .ref (aw 1)), (4, .ref (aw 2)), (5, .ref (aw 3)), (6, .ref (aw 4)), (7, .ref (aw 5)), (8, .ref (aw 6)), (9, .ref (aw 7)), (10, .int v10), (11, .int v11), (14, .int v14), (18, .int v18)]) (zC_pad Nc C) dL_law_1234 (by decide) rfl ?_
  refine z_iload (zC_pad Nc C) dL_law_1236 0 rfl ?_
  refine z_iload (zC_pad Nc C) dL_law_1238 14 rfl ?_
  refine z_icmp_ne (tgt := 1258) (zC_pad Nc C) dL_law_1240 (by decide) (fun c126 => ?_) (fun c126 => ?_)
  · have hF := zelse hF c126
    refine z_iconst (v := 0) (zC_pad Nc C) dL_law_1258 (by decide) ?_
    exact absurd hF (fun q => nomatch q)
  · have hF := zif hF c126
    refine z_aload_n (zC_pad Nc C) dL_law_1243 rfl 2 rfl ?_
    refine z_iconst (v := 4) (zC_pad Nc C) dL_law_1244 (by decide) ?_
    refine z_iload (zC_pad Nc C) dL_law_1245 13 rfl ?_
    refine z_iload (zC_pad Nc C) dL_law_1247 14 rfl ?_
    refine z_aload_n (zC_pad Nc C) dL_law_1249 rfl 3 rfl ?_
    refine z_aload (zC_pad Nc C) dL_law_1250 10 rfl ?_
    obtain ⟨r127, er127, hF⟩ := zbd hF
    refine z_gcallS (N := Nc) (n := 6) (As := [.ref ab, .int 4, .int v14, .int v18, .ref (aw 0), .ref (aw 7)]) (ws' := (zwX7 cI cJ cZ ab a5 a3 a6 a1 a0 Bc Pc Mc Tc Kc Uc Lc ++ zwW cI cJ cZ aw r127.2.1 r127.2.2)) C XE XN (c_L_writes l hl D cI cJ cZ ab a5 a3 a6 a1 a0 aw Bc Pc Mc Tc Kc Uc Wc Lc Oc 4 v14 v18 r127 er127) gL_law_L_writes rfl (by decide +kernel) ⟨Nat.le_of_ble_eq_true rfl, Nat.le_of_ble_eq_true rfl⟩ hf2 [] [] zAs7 zAs8 rfl rfl (Nat.le_of_ble_eq_true rfl) dL_law_1252 ?_
    rw [Nat.add_zero]
    refine z_if_ne (tgt := 1260) (zC_pad Nc C) dL_law_1255 (by decide) (fun c128 => ?_) (fun c128 => ?_)
    · have hF := zelse hF c128
      refine z_goto (tgt := 1930) (zC_pad Nc C) dL_law_1260 (by decide) ?_
      refine z_iwiden (k := cl + 3) (n := sl + 18) (by omega) (by omega) ?_
      exact z_sub (zC_pad Nc C) [1, 2, 3, 4, 5, 6, 7, 8, 9, 10, 11, 12] rfl (c_L_law_j1930 l hl D cI cJ cZ ab a5 a3 a6 a1 a0 aw u C XE XN hX hbl cl sl (by omega) (by omega) k100 hk100 Bc Pc Mc Tc Kc Uc Lc r127.2.1 r127.2.2 Nc v10 v11 hF)
    · have hF := zif hF c128
      refine z_iconst (v := 0) (zC_pad Nc C) dL_law_1258 (by decide) ?_
      exact absurd hF (fun q => nomatch q)
