set_option maxHeartbeats 4000000 in
set_option maxRecDepth 100000 in
theorem c_L_law_j1187 (l : Launch) (hl : l.stackTraces = false) (D : va_G) (cI cJ cZ : ClassId) (ab : Nat) (a5 a3 a6 a1 a0 aw : Nat → Nat) (u : Nat) {p : Program} {e : Env} {s : State} {m : MethodId} {below : List Frame} {meth : Method} {c : Code} {b sL : Nat} {xs : Nat → Int32} (C : zC p s m #[.ref b] meth c cL_law 22 ret RL wsL_law D (zTy cI cJ cZ) (zAq s) s.heap) (XE : zE (zAq s) s s.heap) (XN : zN s) (hX : va_X b sL xs s s.heap) (hbl : b < s.heap.size) (cl sl : Nat) (hc : cl + 6 ≤ 8000) (hs : sl + 36 ≤ 60000) (k100 : SS → SS → SS → SS → SS → SS → SL → SS → SL → Nat → Int32 → Option Nat) (hk100 : ∀ (Bc : SS) (Pc : SS) (Mc : SS) (Tc : SS) (Kc : SS) (Uc : SS) (Lc : SL) (Wc : SS) (Oc : SL) (Nc : Nat) (v10 : Int32), k100 Bc Pc Mc Tc Kc Uc Lc Wc Oc Nc v10 = some u → zW p l e room_R s m #[.ref b] below meth c 22 D (zAq s) (zpad s.heap Nc) (cl + 6) (sl + 36) (lw_Z2 below s u) (zwX7 cI cJ cZ ab a5 a3 a6 a1 a0 Bc Pc Mc Tc Kc Uc Lc ++ zwW cI cJ cZ aw Wc Oc) [(0, .ref b), (1, .ref ab), (2, .ref (aw 0)), (3, .ref (aw 1)), (4, .ref (aw 2)), (5, .ref (aw 3)), (6, .ref (aw 4)), (7, .ref (aw 5)), (8, .ref (aw 6)), (9, .ref (aw 7)), (10, .int v10)] 100 []) (Bc : SS) (Pc : SS) (Mc : SS) (Tc : SS) (Kc : SS) (Uc : SS) (Lc : SL) (Wc : SS) (Oc : SL) (Nc : Nat) (v10 : Int32) (v11 : Int32) (v14 : Int32) (v16 : Int32) (v17 : Int32) (hF : f_L_law_1187 xs sL k100 Bc Pc Mc Tc Kc Uc Lc Wc Oc Nc v10 v11 v14 v16 v17 = some u) : zW p l e room_R s m #[.ref b] below meth c 22 D (zAq s) (zpad s.heap Nc) (cl + 2) (sl + 12) (lw_Z2 below s u) (zwX7 cI cJ cZ ab a5 a3 a6 a1 a0 Bc Pc Mc Tc Kc Uc Lc ++ zwW cI cJ cZ aw Wc Oc) [(0, .ref b), (1, .ref ab), (2, .ref (aw 0)), (3, .ref (aw 1)), (4, .ref (aw 2)), (5, .ref (aw 3)), (6, .ref (aw 4)), (7, .ref (aw 5)), (8, .ref (aw 6)), (9, .ref (aw 7)), (10, .int v10), (11, .int v11), (14, .int v14), (16, .int v16), (17, .int v17)] 1187 [] := by
  unfold f_L_law_1187 at hF
  have hf0 : cl + 0 ≤ room_R.cells ∧ sl + 0 ≤ room_R.slots := ⟨by show _ ≤ 8000; omega, by show _ ≤ 60000; omega⟩
  have hf1 : cl + 1 ≤ room_R.cells ∧ sl + 6 ≤ room_R.slots := ⟨by show _ ≤ 8000; omega, by show _ ≤ 60000; omega⟩
  have hf2 : cl + 2 ≤ room_R.cells ∧ sl + 12 ≤ room_R.slots := ⟨by show _ ≤ 8000; omega, by show _ ≤ 60000; omega⟩
  have hf3 : cl + 3 ≤ room_R.cells ∧ sl + 18 ≤ room_R.slots := ⟨by show _ ≤ 8000; omega, by show _ ≤ 60000; omega⟩
  have hf4 : cl + 4 ≤ room_R.cells ∧ sl + 24 ≤ room_R.slots := ⟨by show _ ≤ 8000; omega, by show _ ≤ 60000; omega⟩
  have hf5 : cl + 5 ≤ room_R.cells ∧ sl + 30 ≤ room_R.slots := ⟨by show _ ≤ 8000; omega, by show _ ≤ 60000; omega⟩
  have hf6 : cl + 6 ≤ room_R.cells ∧ sl + 36 ≤ room_R.slots := ⟨by show _ ≤ 8000; omega, by show _ ≤ 60000; omega⟩
  have hbA : ¬ zAq s b := Nat.not_le.mpr hbl
  refine z_aload_n (zC_pad Nc C) dL_law_1187 rfl 3 rfl ?_
  refine z_iconst (v := 5) (zC_pad Nc C) dL_law_1188 (by decide) ?_
  refine z_iload (zC_pad Nc C) dL_law_1189 12 rfl ?_
  refine z_imul (zC_pad Nc C) dL_law_1191 ?_
  refine z_iconst (v := 3) (zC_pad Nc C) dL_law_1192 (by decide) ?_
  refine z_iadd (zC_pad Nc C) dL_law_1193 ?_
  refine z_iconst (v := (-1)) (zC_pad Nc C) dL_law_1194 (by decide) ?_
  obtain ⟨g121, hF⟩ := zix_some hF
  refine z_iast (ws' := (zwX7 cI cJ cZ ab a5 a3 a6 a1 a0 Bc Pc Mc Tc Kc Uc Lc ++ zwW cI cJ cZ aw (za Wc 1 ((5 * v14) + 3) (-1)) Oc)) (zC_pad Nc C) g121 31 rfl rfl dL_law_1195 (za_row Wc 1 ((5 * v14) + 3) (-1)) (zq_W_1 cI cJ cZ ab a5 a3 a6 a1 a0 Bc Pc Mc Tc Kc Uc Lc aw Wc Oc ((5 * v14) + 3) (-1)) ?_
  refine z_iload (zC_pad Nc C) dL_law_1196 13 rfl ?_
  refine z_aload_n (zC_pad Nc C) dL_law_1198 rfl 2 rfl ?_
  refine z_aload_n (zC_pad Nc C) dL_law_1199 rfl 3 rfl ?_
  obtain ⟨r122, er122, hF⟩ := zbd hF
  refine z_callSW (n := 2) (As := [.ref (aw 0), .ref (aw 1)]) (ws' := (zwX7 cI cJ cZ ab a5 a3 a6 a1 a0 Bc Pc Mc Tc Kc Uc Lc ++ zwW cI cJ cZ aw (za Wc 1 ((5 * v14) + 3) (-1)) Oc)) (zC_pad Nc C) (c_L_living l D cI cJ cZ aw (za Wc 1 ((5 * v14) + 3) (-1)) Oc r122 er122) gL_law_L_living rfl rfl rfl (by decide +kernel) ⟨Nat.le_of_ble_eq_true rfl, Nat.le_of_ble_eq_true rfl⟩ hf2 (zwX7 cI cJ cZ ab a5 a3 a6 a1 a0 Bc Pc Mc Tc Kc Uc Lc) [] zAs5 zAs6 rfl rfl (Nat.le_of_ble_eq_true rfl) dL_law_1200 ?_
  refine z_isub (zC_pad Nc C) dL_law_1203 ?_
  refine z_aload_n (zC_pad Nc C) dL_law_1204 rfl 2 rfl ?_
  refine z_aload_n (zC_pad Nc C) dL_law_1205 rfl 3 rfl ?_
  refine z_aload (zC_pad Nc C) dL_law_1206 4 rfl ?_
  obtain ⟨r123, er123, hF⟩ := zbd hF
  refine z_callSW (n := 3) (As := [.ref (aw 0), .ref (aw 1), .ref (aw 2)]) (ws' := (zwX7 cI cJ cZ ab a5 a3 a6 a1 a0 Bc Pc Mc Tc Kc Uc Lc ++ zwW cI cJ cZ aw (za Wc 1 ((5 * v14) + 3) (-1)) Oc)) (zC_pad Nc C) (c_L_working l D cI cJ cZ aw (za Wc 1 ((5 * v14) + 3) (-1)) Oc r123 er123) gL_law_L_working rfl rfl rfl (by decide +kernel) ⟨Nat.le_of_ble_eq_true rfl, Nat.le_of_ble_eq_true rfl⟩ hf2 (zwX7 cI cJ cZ ab a5 a3 a6 a1 a0 Bc Pc Mc Tc Kc Uc Lc) [] zAs5 zAs6 rfl rfl (Nat.le_of_ble_eq_true rfl) dL_law_1208 ?_
  refine z_isub (zC_pad Nc C) dL_law_1211 ?_
  refine z_istore (lv' := [(18, .int ((v16 - r122) - r123)), (0, .ref b), (1, .ref ab), (2, .ref (aw 0)), (3, .ref (aw 1)), (4, .ref (aw 2)), (5, .ref (aw 3)), (6, .ref (aw 4)), (7, .ref (aw 5)), (8, .ref (aw 6)), (9, .ref (aw 7)), (10, .int v10), (11, .int v11), (14, .int v14), (16, .int v16), (17, .int v17)]) (zC_pad Nc C) dL_law_1212 (by decide) rfl ?_
  refine z_iload (zC_pad Nc C) dL_law_1214 15 rfl ?_
  refine z_if_eq (tgt := 1228) (zC_pad Nc C) dL_law_1216 (by decide) (fun c124 => ?_) (fun c124 => ?_)
  · have hF := zif hF c124
    refine z_aload_n (zC_pad Nc C) dL_law_1228 rfl 2 rfl ?_
    refine z_iload (zC_pad Nc C) dL_law_1229 13 rfl ?_
    obtain ⟨r125, er125, hF⟩ := zok_some hF
    refine z_gcallV_R (n := 1) (As := [.int v14]) (ws' := (zwX7 cI cJ cZ ab a5 a3 a6 a1 a0 Bc Pc Mc r125.2.1 r125.2.2.1 r125.2.2.2.1 r125.2.2.2.2 ++ zwW cI cJ cZ aw (za Wc 1 ((5 * v14) + 3) (-1)) Oc)) (zC_pad Nc C) C XE (zhb_p C) (c_X7_revoke l hl D cI cJ cZ ab a5 a3 a6 a1 a0 Bc Pc Mc Tc Kc Uc Lc v14 (.inr r125) er125) gL_law_X7_revoke rfl (by decide +kernel) ⟨Nat.le_of_ble_eq_true rfl, Nat.le_of_ble_eq_true rfl⟩ hf2 0 rfl rfl [] (zwW cI cJ cZ aw (za Wc 1 ((5 * v14) + 3) (-1)) Oc) rfl rfl rfl rfl (Nat.le_of_ble_eq_true rfl) dL_law_1231 ?_
    exact z_sub (zC_pad Nc C) [1, 2, 3, 4, 5, 6, 7, 8, 9, 10, 11, 12, 13, 0] rfl (c_L_law_j1234 l hl D cI cJ cZ ab a5 a3 a6 a1 a0 aw u C XE XN hX hbl cl sl (by omega) (by omega) k100 hk100 Bc Pc Mc r125.2.1 r125.2.2.1 r125.2.2.2.1 r125.2.2.2.2 (za Wc 1 ((5 * v14) + 3) (-1)) Oc Nc v10 v11 v14 ((v16 - r122) - r123) r125.1 hF)
  · have hF := zelse hF c124
    refine z_aload_n (zC_pad Nc C) dL_law_1219 rfl 2 rfl ?_
    refine z_iload (zC_pad Nc C) dL_law_1220 13 rfl ?_
    obtain ⟨r129, er129, hF⟩ := zok_some hF
    refine z_gcallV_R (n := 1) (As := [.int v14]) (ws' := (zwX7 cI cJ cZ ab a5 a3 a6 a1 a0 Bc Pc Mc r129.2.1 r129.2.2.1 r129.2.2.2.1 r129.2.2.2.2 ++ zwW cI cJ cZ aw (za Wc 1 ((5 * v14) + 3) (-1)) Oc)) (zC_pad Nc C) C XE (zhb_p C) (c_X7_revokeAlone l hl D cI cJ cZ ab a5 a3 a6 a1 a0 Bc Pc Mc Tc Kc Uc Lc v14 (.inr r129) er129) gL_law_X7_revokeAlone rfl (by decide +kernel) ⟨Nat.le_of_ble_eq_true rfl, Nat.le_of_ble_eq_true rfl⟩ hf2 0 rfl rfl [] (zwW cI cJ cZ aw (za Wc 1 ((5 * v14) + 3) (-1)) Oc) rfl rfl rfl rfl (Nat.le_of_ble_eq_true rfl) dL_law_1222 ?_
    refine z_goto (tgt := 1234) (zC_pad Nc C) dL_law_1225 (by decide) ?_
    exact z_sub (zC_pad Nc C) [1, 2, 3, 4, 5, 6, 7, 8, 9, 10, 11, 12, 13, 0] rfl (c_L_law_j1234 l hl D cI cJ cZ ab a5 a3 a6 a1 a0 aw u C XE XN hX hbl cl sl (by omega) (by omega) k100 hk100 Bc Pc Mc r129.2.1 r129.2.2.1 r129.2.2.2.1 r129.2.2.2.2 (za Wc 1 ((5 * v14) + 3) (-1)) Oc Nc v10 v11 v14 ((v16 - r122) - r123) r129.1 hF)
set_option maxHeartbeats 4000000 in
set_option maxRecDepth 100000 in
theorem c_L_law_j1131 (l : Launch) (hl : l.stackTraces = false) (D : va_G) (cI cJ cZ : ClassId) (ab : Nat) (a5 a3 a6 a1 a0 aw : Nat → Nat) (u : Nat) {p : Program} {e : Env} {s : State} {m : MethodId} {below : List Frame} {meth : Method} {c : Code} {b sL : Nat} {xs : Nat → Int32} (C : zC p s m #[.ref b] meth c cL_law 22 ret RL wsL_law D (zTy cI cJ cZ) (zAq s) s.heap) (XE : zE (zAq s) s s.heap) (XN : zN s) (hX : va_X b sL xs s s.heap) (hbl : b < s.heap.size) (cl sl : Nat) (hc : cl + 6 ≤ 8000) (hs : sl + 36 ≤ 60000) (k100 : SS → SS → SS → SS → SS → SS → SL → SS → SL → Nat → Int32 → Option Nat) (hk100 : ∀ (Bc : SS) (Pc : SS) (Mc : SS) (Tc : SS) (Kc : SS) (Uc : SS) (Lc : SL) (Wc : SS) (Oc : SL) (Nc : Nat) (v10 : Int32), k100 Bc Pc Mc Tc Kc Uc Lc Wc Oc Nc v10 = some u → zW p l e room_R s m #[.ref b] below meth c 22 D (zAq s) (zpad s.heap Nc) (cl + 6) (sl + 36) (lw_Z2 below s u) (zwX7 cI cJ cZ ab a5 a3 a6 a1 a0 Bc Pc Mc Tc Kc Uc Lc ++ zwW cI cJ cZ aw Wc Oc) [(0, .ref b), (1, .ref ab), (2, .ref (aw 0)), (3, .ref (aw 1)), (4, .ref (aw 2)), (5, .ref (aw 3)), (6, .ref (aw 4)), (7, .ref (aw 5)), (8, .ref (aw 6)), (9, .ref (aw 7)), (10, .int v10)] 100 []) : ∀ (n : Nat) (Bc : SS) (Pc : SS) (Mc : SS) (Tc : SS) (Kc : SS) (Uc : SS) (Lc : SL) (Wc : SS) (Oc : SL) (Nc : Nat) (v10 : Int32) (v11 : Int32) (v14 : Int32) (v16 : Int32) (v17 : Int32) (v18 : Int32), f_L_law_1131 xs sL k100 n Bc Pc Mc Tc Kc Uc Lc Wc Oc Nc v10 v11 v14 v16 v17 v18 = some u → zW p l e room_R s m #[.ref b] below meth c 22 D (zAq s) (zpad s.heap Nc) (cl + 2) (sl + 12) (lw_Z2 below s u) (zwX7 cI cJ cZ ab a5 a3 a6 a1 a0 Bc Pc Mc Tc Kc Uc Lc ++ zwW cI cJ cZ aw Wc Oc) [(0, .ref b), (1, .ref ab), (2, .ref (aw 0)), (3, .ref (aw 1)), (4, .ref (aw 2)), (5, .ref (aw 3)), (6, .ref (aw 4)), (7, .ref (aw 5)), (8, .ref (aw 6)), (9, .ref (aw 7)), (10, .int v10), (11, .int v11), (14, .int v14), (16, .int v16), (17, .int v17), (18, .int v18)] 1131 [] := by
  intro n
  induction n with
  | zero => intro Bc Pc Mc Tc Kc Uc Lc Wc Oc Nc v10 v11 v14 v16 v17 v18 hF; exact absurd (show none = some u from hF) (fun q => nomatch q)
  | succ n ih =>
    intro Bc Pc Mc Tc Kc Uc Lc Wc Oc Nc v10 v11 v14 v16 v17 v18 hF
    have hf0 : cl + 0 ≤ room_R.cells ∧ sl + 0 ≤ room_R.slots := ⟨by show _ ≤ 8000; omega, by show _ ≤ 60000; omega⟩
    have hf1 : cl + 1 ≤ room_R.cells ∧ sl + 6 ≤ room_R.slots := ⟨by show _ ≤ 8000; omega, by show _ ≤ 60000; omega⟩
    have hf2 : cl + 2 ≤ room_R.cells ∧ sl + 12 ≤ room_R.slots := ⟨by show _ ≤ 8000; omega, by show _ ≤ 60000; omega⟩
    have hf3 : cl + 3 ≤ room_R.cells ∧ sl + 18 ≤ room_R.slots := ⟨by show _ ≤ 8000; omega, by show _ ≤ 60000; omega⟩
    have hf4 : cl + 4 ≤ room_R.cells ∧ sl + 24 ≤ room_R.slots := ⟨by show _ ≤ 8000; omega, by show _ ≤ 60000; omega⟩
    have hf5 : cl + 5 ≤ room_R.cells ∧ sl + 30 ≤ room_R.slots := ⟨by show _ ≤ 8000; omega, by show _ ≤ 60000; omega⟩
    have hf6 : cl + 6 ≤ room_R.cells ∧ sl + 36 ≤ room_R.slots := ⟨by show _ ≤ 8000; omega, by show _ ≤ 60000; omega⟩
    have hbA : ¬ zAq s b := Nat.not_le.mpr hbl
    refine z_iload (zC_pad Nc C) dL_law_1131 15 rfl ?_
    refine z_aload_n (zC_pad Nc C) dL_law_1133 rfl 2 rfl ?_
    refine z_iconst (v := 3) (zC_pad Nc C) dL_law_1134 (by decide) ?_
    obtain ⟨g119, hF⟩ := zix_some hF
    refine z_iald (v := ((Wc 0) (3 : Int32).toNatClampNeg)) (zC_pad Nc C) g119 30 rfl rfl rfl dL_law_1135 ?_
    refine z_icmp_ge (tgt := 1187) (zC_pad Nc C) dL_law_1136 (by decide) (fun c120 => ?_) (fun c120 => ?_)
    · have hF := zif hF c120
      exact z_sub (zC_pad Nc C) [0, 1, 2, 3, 4, 5, 6, 7, 8, 9, 10, 11, 12, 13, 14] rfl (c_L_law_j1187 l hl D cI cJ cZ ab a5 a3 a6 a1 a0 aw u C XE XN hX hbl cl sl (by omega) (by omega) k100 hk100 Bc Pc Mc Tc Kc Uc Lc Wc Oc Nc v10 v11 v14 v16 v17 hF)
    · have hF := zelse hF c120
      refine z_iload (zC_pad Nc C) dL_law_1139 14 rfl ?_
      refine z_if_eq (tgt := 1187) (zC_pad Nc C) dL_law_1141 (by decide) (fun c130 => ?_) (fun c130 => ?_)
      · have hF := zif hF c130
        exact z_sub (zC_pad Nc C) [0, 1, 2, 3, 4, 5, 6, 7, 8, 9, 10, 11, 12, 13, 14] rfl (c_L_law_j1187 l hl D cI cJ cZ ab a5 a3 a6 a1 a0 aw u C XE XN hX hbl cl sl (by omega) (by omega) k100 hk100 Bc Pc Mc Tc Kc Uc Lc Wc Oc Nc v10 v11 v14 v16 v17 hF)
      · have hF := zelse hF c130
        refine z_aload_n (zC_pad Nc C) dL_law_1144 rfl 3 rfl ?_
        refine z_iconst (v := 5) (zC_pad Nc C) dL_law_1145 (by decide) ?_
        refine z_iload (zC_pad Nc C) dL_law_1146 15 rfl ?_
        refine z_imul (zC_pad Nc C) dL_law_1148 ?_
        refine z_aload_n (zC_pad Nc C) dL_law_1149 rfl 3 rfl ?_
        refine z_iconst (v := 5) (zC_pad Nc C) dL_law_1150 (by decide) ?_
        refine z_iload (zC_pad Nc C) dL_law_1151 15 rfl ?_
        refine z_imul (zC_pad Nc C) dL_law_1153 ?_
        obtain ⟨g131, hF⟩ := zix_some hF
        refine z_iald (v := ((Wc 1) (5 * v18).toNatClampNeg)) (zC_pad Nc C) g131 31 rfl rfl rfl dL_law_1154 ?_
        refine z_iload (zC_pad Nc C) dL_law_1155 12 rfl ?_
        refine z_icmp_ne (tgt := 1174) (zC_pad Nc C) dL_law_1157 (by decide) (fun c132 => ?_) (fun c132 => ?_)
        · have hF := zelse hF c132
          refine z_aload_n (zC_pad Nc C) dL_law_1174 rfl 3 rfl ?_
          refine z_iconst (v := 5) (zC_pad Nc C) dL_law_1175 (by decide) ?_
          refine z_iload (zC_pad Nc C) dL_law_1176 15 rfl ?_
          refine z_imul (zC_pad Nc C) dL_law_1178 ?_
          obtain ⟨g133, hF⟩ := zix_some hF
          refine z_iald (v := ((Wc 1) (5 * v18).toNatClampNeg)) (zC_pad Nc C) g133 31 rfl rfl rfl dL_law_1179 ?_
          obtain ⟨g134, hF⟩ := zix_some hF
          refine z_iast (ws' := (zwX7 cI cJ cZ ab a5 a3 a6 a1 a0 Bc Pc Mc Tc Kc Uc Lc ++ zwW cI cJ cZ aw (za Wc 1 (5 * v18) ((Wc 1) (5 * v18).toNatClampNeg)) Oc)) (zC_pad Nc C) g134 31 rfl rfl dL_law_1180 (za_row Wc 1 (5 * v18) ((Wc 1) (5 * v18).toNatClampNeg)) (zq_W_1 cI cJ cZ ab a5 a3 a6 a1 a0 Bc Pc Mc Tc Kc Uc Lc aw Wc Oc (5 * v18) ((Wc 1) (5 * v18).toNatClampNeg)) ?_
          refine z_iinc (v := (v18 + 1)) (lv' := [(18, .int (v18 + 1)), (0, .ref b), (1, .ref ab), (2, .ref (aw 0)), (3, .ref (aw 1)), (4, .ref (aw 2)), (5, .ref (aw 3)), (6, .ref (aw 4)), (7, .ref (aw 5)), (8, .ref (aw 6)), (9, .ref (aw 7)), (10, .int v10), (11, .int v11), (14, .int v14), (16, .int v16), (17, .int v17)]) (zC_pad Nc C) dL_law_1181 15 rfl rfl (by decide) rfl ?_
          refine z_goto (tgt := 1131) (zC_pad Nc C) dL_law_1184 (by decide) ?_
          exact z_sub (zC_pad Nc C) [1, 2, 3, 4, 5, 6, 7, 8, 9, 10, 11, 12, 13, 14, 15, 0] rfl (ih Bc Pc Mc Tc Kc Uc Lc (za Wc 1 (5 * v18) ((Wc 1) (5 * v18).toNatClampNeg)) Oc Nc v10 v11 v14 v16 v17 (v18 + 1) hF)
        · have hF := zif hF c132
          refine z_iload (zC_pad Nc C) dL_law_1160 15 rfl ?_
          refine z_aload_n (zC_pad Nc C) dL_law_1162 rfl 2 rfl ?_
          refine z_aload_n (zC_pad Nc C) dL_law_1163 rfl 3 rfl ?_
          obtain ⟨r135, er135, hF⟩ := zbd hF
          refine z_callSW (n := 3) (As := [.int v18, .ref (aw 0), .ref (aw 1)]) (ws' := (zwX7 cI cJ cZ ab a5 a3 a6 a1 a0 Bc Pc Mc Tc Kc Uc Lc ++ zwW cI cJ cZ aw Wc Oc)) (zC_pad Nc C) (c_L_lives l D cI cJ cZ aw Wc Oc v18 r135 er135) gL_law_L_lives rfl rfl rfl (by decide +kernel) ⟨Nat.le_of_ble_eq_true rfl, Nat.le_of_ble_eq_true rfl⟩ hf2 (zwX7 cI cJ cZ ab a5 a3 a6 a1 a0 Bc Pc Mc Tc Kc Uc Lc) [] zAs5 zAs6 rfl rfl (Nat.le_of_ble_eq_true rfl) dL_law_1164 ?_
          refine z_if_eq (tgt := 1174) (zC_pad Nc C) dL_law_1167 (by decide) (fun c136 => ?_) (fun c136 => ?_)
          · have hF := zif hF c136
            refine z_aload_n (zC_pad Nc C) dL_law_1174 rfl 3 rfl ?_
            refine z_iconst (v := 5) (zC_pad Nc C) dL_law_1175 (by decide) ?_
            refine z_iload (zC_pad Nc C) dL_law_1176 15 rfl ?_
            refine z_imul (zC_pad Nc C) dL_law_1178 ?_
            obtain ⟨g137, hF⟩ := zix_some hF
            refine z_iald (v := ((Wc 1) (5 * v18).toNatClampNeg)) (zC_pad Nc C) g137 31 rfl rfl rfl dL_law_1179 ?_
            obtain ⟨g138, hF⟩ := zix_some hF
            refine z_iast (ws' := (zwX7 cI cJ cZ ab a5 a3 a6 a1 a0 Bc Pc Mc Tc Kc Uc Lc ++ zwW cI cJ cZ aw (za Wc 1 (5 * v18) ((Wc 1) (5 * v18).toNatClampNeg)) Oc)) (zC_pad Nc C) g138 31 rfl rfl dL_law_1180 (za_row Wc 1 (5 * v18) ((Wc 1) (5 * v18).toNatClampNeg)) (zq_W_1 cI cJ cZ ab a5 a3 a6 a1 a0 Bc Pc Mc Tc Kc Uc Lc aw Wc Oc (5 * v18) ((Wc 1) (5 * v18).toNatClampNeg)) ?_
            refine z_iinc (v := (v18 + 1)) (lv' := [(18, .int (v18 + 1)), (0, .ref b), (1, .ref ab), (2, .ref (aw 0)), (3, .ref (aw 1)), (4, .ref (aw 2)), (5, .ref (aw 3)), (6, .ref (aw 4)), (7, .ref (aw 5)), (8, .ref (aw 6)), (9, .ref (aw 7)), (10, .int v10), (11, .int v11), (14, .int v14), (16, .int v16), (17, .int v17)]) (zC_pad Nc C) dL_law_1181 15 rfl rfl (by decide) rfl ?_
            refine z_goto (tgt := 1131) (zC_pad Nc C) dL_law_1184 (by decide) ?_
            exact z_sub (zC_pad Nc C) [1, 2, 3, 4, 5, 6, 7, 8, 9, 10, 11, 12, 13, 14, 15, 0] rfl (ih Bc Pc Mc Tc Kc Uc Lc (za Wc 1 (5 * v18) ((Wc 1) (5 * v18).toNatClampNeg)) Oc Nc v10 v11 v14 v16 v17 (v18 + 1) hF)
          · have hF := zelse hF c136
            refine z_iconst (v := (-1)) (zC_pad Nc C) dL_law_1170 (by decide) ?_
            refine z_goto (tgt := 1180) (zC_pad Nc C) dL_law_1171 (by decide) ?_
            obtain ⟨g139, hF⟩ := zix_some hF
            refine z_iast (ws' := (zwX7 cI cJ cZ ab a5 a3 a6 a1 a0 Bc Pc Mc Tc Kc Uc Lc ++ zwW cI cJ cZ aw (za Wc 1 (5 * v18) (-1)) Oc)) (zC_pad Nc C) g139 31 rfl rfl dL_law_1180 (za_row Wc 1 (5 * v18) (-1)) (zq_W_1 cI cJ cZ ab a5 a3 a6 a1 a0 Bc Pc Mc Tc Kc Uc Lc aw Wc Oc (5 * v18) (-1)) ?_
            refine z_iinc (v := (v18 + 1)) (lv' := [(18, .int (v18 + 1)), (0, .ref b), (1, .ref ab), (2, .ref (aw 0)), (3, .ref (aw 1)), (4, .ref (aw 2)), (5, .ref (aw 3)), (6, .ref (aw 4)), (7, .ref (aw 5)), (8, .ref (aw 6)), (9, .ref (aw 7)), (10, .int v10), (11, .int v11), (14, .int v14), (16, .int v16), (17, .int v17)]) (zC_pad Nc C) dL_law_1181 15 rfl rfl (by decide) rfl ?_
            refine z_goto (tgt := 1131) (zC_pad Nc C) dL_law_1184 (by decide) ?_
            exact z_sub (zC_pad Nc C) [1, 2, 3, 4, 5, 6, 7, 8, 9, 10, 11, 12, 13, 14, 15, 0] rfl (ih Bc Pc Mc Tc Kc Uc Lc (za Wc 1 (5 * v18) (-1)) Oc Nc v10 v11 v14 v16 v17 (v18 + 1) hF)
set_option maxHeartbeats 4000000 in
set_option maxRecDepth 100000 in
theorem c_L_law_j1092 (l : Launch) (hl : l.stackTraces = false) (D : va_G) (cI cJ cZ : ClassId) (ab : Nat) (a5 a3 a6 a1 a0 aw : Nat → Nat) (u : Nat) {p : Program} {e : Env} {s : State} {m : MethodId} {below : List Frame} {meth : Method} {c : Code} {b sL : Nat} {xs : Nat → Int32} (C : zC p s m #[.ref b] meth c cL_law 22 ret RL wsL_law D (zTy cI cJ cZ) (zAq s) s.heap) (XE : zE (zAq s) s s.heap) (XN : zN s) (hX : va_X b sL xs s s.heap) (hbl : b < s.heap.size) (cl sl : Nat) (hc : cl + 6 ≤ 8000) (hs : sl + 36 ≤ 60000) (k100 : SS → SS → SS → SS → SS → SS → SL → SS → SL → Nat → Int32 → Option Nat) (hk100 : ∀ (Bc : SS) (Pc : SS) (Mc : SS) (Tc : SS) (Kc : SS) (Uc : SS) (Lc : SL) (Wc : SS) (Oc : SL) (Nc : Nat) (v10 : Int32), k100 Bc Pc Mc Tc Kc Uc Lc Wc Oc Nc v10 = some u → zW p l e room_R s m #[.ref b] below meth c 22 D (zAq s) (zpad s.heap Nc) (cl + 6) (sl + 36) (lw_Z2 below s u) (zwX7 cI cJ cZ ab a5 a3 a6 a1 a0 Bc Pc Mc Tc Kc Uc Lc ++ zwW cI cJ cZ aw Wc Oc) [(0, .ref b), (1, .ref ab), (2, .ref (aw 0)), (3, .ref (aw 1)), (4, .ref (aw 2)), (5, .ref (aw 3)), (6, .ref (aw 4)), (7, .ref (aw 5)), (8, .ref (aw 6)), (9, .ref (aw 7)), (10, .int v10)] 100 []) (Bc : SS) (Pc : SS) (Mc : SS) (Tc : SS) (Kc : SS) (Uc : SS) (Lc : SL) (Wc : SS) (Oc : SL) (Nc : Nat) (v10 : Int32) (v11 : Int32) (v14 : Int32) (v15 : Int32) (v16 : Int32) (s0 : Int32) (hF : f_L_law_1092 xs sL k100 Bc Pc Mc Tc Kc Uc Lc Wc Oc Nc v10 v11 v14 v15 v16 s0 = some u) : zW p l e room_R s m #[.ref b] below meth c 22 D (zAq s) (zpad s.heap Nc) (cl + 2) (sl + 12) (lw_Z2 below s u) (zwX7 cI cJ cZ ab a5 a3 a6 a1 a0 Bc Pc Mc Tc Kc Uc Lc ++ zwW cI cJ cZ aw Wc Oc) [(0, .ref b), (1, .ref ab), (2, .ref (aw 0)), (3, .ref (aw 1)), (4, .ref (aw 2)), (5, .ref (aw 3)), (6, .ref (aw 4)), (7, .ref (aw 5)), (8, .ref (aw 6)), (9, .ref (aw 7)), (10, .int v10), (11, .int v11), (14, .int v14), (15, .int v15), (16, .int v16)] 1092 [.int s0] := by
  unfold f_L_law_1092 at hF
  have hf0 : cl + 0 ≤ room_R.cells ∧ sl + 0 ≤ room_R.slots := ⟨by show _ ≤ 8000; omega, by show _ ≤ 60000; omega⟩
  have hf1 : cl + 1 ≤ room_R.cells ∧ sl + 6 ≤ room_R.slots := ⟨by show _ ≤ 8000; omega, by show _ ≤ 60000; omega⟩
  have hf2 : cl + 2 ≤ room_R.cells ∧ sl + 12 ≤ room_R.slots := ⟨by show _ ≤ 8000; omega, by show _ ≤ 60000; omega⟩
  have hf3 : cl + 3 ≤ room_R.cells ∧ sl + 18 ≤ room_R.slots := ⟨by show _ ≤ 8000; omega, by show _ ≤ 60000; omega⟩
  have hf4 : cl + 4 ≤ room_R.cells ∧ sl + 24 ≤ room_R.slots := ⟨by show _ ≤ 8000; omega, by show _ ≤ 60000; omega⟩
  have hf5 : cl + 5 ≤ room_R.cells ∧ sl + 30 ≤ room_R.slots := ⟨by show _ ≤ 8000; omega, by show _ ≤ 60000; omega⟩
  have hf6 : cl + 6 ≤ room_R.cells ∧ sl + 36 ≤ room_R.slots := ⟨by show _ ≤ 8000; omega, by show _ ≤ 60000; omega⟩
  have hbA : ¬ zAq s b := Nat.not_le.mpr hbl
  refine z_istore (lv' := [(17, .int s0), (0, .ref b), (1, .ref ab), (2, .ref (aw 0)), (3, .ref (aw 1)), (4, .ref (aw 2)), (5, .ref (aw 3)), (6, .ref (aw 4)), (7, .ref (aw 5)), (8, .ref (aw 6)), (9, .ref (aw 7)), (10, .int v10), (11, .int v11), (14, .int v14), (15, .int v15), (16, .int v16)]) (zC_pad Nc C) dL_law_1092 (by decide) rfl ?_
  refine z_iload (zC_pad Nc C) dL_law_1094 13 rfl ?_
  refine z_if_eq (tgt := 1104) (zC_pad Nc C) dL_law_1096 (by decide) (fun c112 => ?_) (fun c112 => ?_)
  · have hF := zif hF c112
    exact z_sub (zC_pad Nc C) [1, 2, 3, 4, 5, 6, 7, 8, 9, 10, 11, 13, 0] rfl (c_L_law_j1104 l hl D cI cJ cZ ab a5 a3 a6 a1 a0 aw u C XE XN hX hbl cl sl (by omega) (by omega) k100 hk100 Bc Pc Mc Tc Kc Uc Lc Wc Oc Nc v10 v14 s0 hF)
  · have hF := zelse hF c112
    refine z_iload (zC_pad Nc C) dL_law_1099 14 rfl ?_
    refine z_if_ne (tgt := 1128) (zC_pad Nc C) dL_law_1101 (by decide) (fun c118 => ?_) (fun c118 => ?_)
    · have hF := zelse hF c118
      refine z_iconst (v := 1) (zC_pad Nc C) dL_law_1128 (by decide) ?_
      refine z_istore (lv' := [(18, .int 1), (17, .int s0), (0, .ref b), (1, .ref ab), (2, .ref (aw 0)), (3, .ref (aw 1)), (4, .ref (aw 2)), (5, .ref (aw 3)), (6, .ref (aw 4)), (7, .ref (aw 5)), (8, .ref (aw 6)), (9, .ref (aw 7)), (10, .int v10), (11, .int v11), (14, .int v14), (15, .int v15), (16, .int v16)]) (zC_pad Nc C) dL_law_1129 (by decide) rfl ?_
      exact z_sub (zC_pad Nc C) [2, 3, 4, 5, 6, 7, 8, 9, 10, 11, 12, 13, 14, 16, 1, 0] rfl (c_L_law_j1131 l hl D cI cJ cZ ab a5 a3 a6 a1 a0 aw u C XE XN hX hbl cl sl (by omega) (by omega) k100 hk100 600 Bc Pc Mc Tc Kc Uc Lc Wc Oc Nc v10 v11 v14 v16 s0 1 hF)
    · have hF := zif hF c118
      exact z_sub (zC_pad Nc C) [1, 2, 3, 4, 5, 6, 7, 8, 9, 10, 11, 13, 0] rfl (c_L_law_j1104 l hl D cI cJ cZ ab a5 a3 a6 a1 a0 aw u C XE XN hX hbl cl sl (by omega) (by omega) k100 hk100 Bc Pc Mc Tc Kc Uc Lc Wc Oc Nc v10 v14 s0 hF)
set_option maxHeartbeats 4000000 in
set_option maxRecDepth 100000 in
theorem c_L_law_j942 (l : Launch) (hl : l.stackTraces = false) (D : va_G) (cI cJ cZ : ClassId) (ab : Nat) (a5 a3 a6 a1 a0 aw : Nat → Nat) (u : Nat) {p : Program} {e : Env} {s : State} {m : MethodId} {below : List Frame} {meth : Method} {c : Code} {b sL : Nat} {xs : Nat → Int32} (C : zC p s m #[.ref b] meth c cL_law 22 ret RL wsL_law D (zTy cI cJ cZ) (zAq s) s.heap) (XE : zE (zAq s) s s.heap) (XN : zN s) (hX : va_X b sL xs s s.heap) (hbl : b < s.heap.size) (cl sl : Nat) (hc : cl + 6 ≤ 8000) (hs : sl + 36 ≤ 60000) (k100 : SS → SS → SS → SS → SS → SS → SL → SS → SL → Nat → Int32 → Option Nat) (hk100 : ∀ (Bc : SS) (Pc : SS) (Mc : SS) (Tc : SS) (Kc : SS) (Uc : SS) (Lc : SL) (Wc : SS) (Oc : SL) (Nc : Nat) (v10 : Int32), k100 Bc Pc Mc Tc Kc Uc Lc Wc Oc Nc v10 = some u → zW p l e room_R s m #[.ref b] below meth c 22 D (zAq s) (zpad s.heap Nc) (cl + 6) (sl + 36) (lw_Z2 below s u) (zwX7 cI cJ cZ ab a5 a3 a6 a1 a0 Bc Pc Mc Tc Kc Uc Lc ++ zwW cI cJ cZ aw Wc Oc) [(0, .ref b), (1, .ref ab), (2, .ref (aw 0)), (3, .ref (aw 1)), (4, .ref (aw 2)), (5, .ref (aw 3)), (6, .ref (aw 4)), (7, .ref (aw 5)), (8, .ref (aw 6)), (9, .ref (aw 7)), (10, .int v10)] 100 []) (Bc : SS) (Pc : SS) (Mc : SS) (Tc : SS) (Kc : SS) (Uc : SS) (Lc : SL) (Wc : SS) (Oc : SL) (Nc : Nat) (v10 : Int32) (v14 : Int32) (v17 : Int32) (hF : f_L_law_942 xs sL k100 Bc Pc Mc Tc Kc Uc Lc Wc Oc Nc v10 v14 v17 = some u) : zW p l e room_R s m #[.ref b] below meth c 22 D (zAq s) (zpad s.heap Nc) (cl + 2) (sl + 12) (lw_Z2 below s u) (zwX7 cI cJ cZ ab a5 a3 a6 a1 a0 Bc Pc Mc Tc Kc Uc Lc ++ zwW cI cJ cZ aw Wc Oc) [(0, .ref b), (1, .ref ab), (2, .ref (aw 0)), (3, .ref (aw 1)), (4, .ref (aw 2)), (5, .ref (aw 3)), (6, .ref (aw 4)), (7, .ref (aw 5)), (8, .ref (aw 6)), (9, .ref (aw 7)), (10, .int v10), (14, .int v14), (17, .int v17)] 942 [] := by
  unfold f_L_law_942 at hF
  have hf0 : cl + 0 ≤ room_R.cells ∧ sl + 0 ≤ room_R.slots := ⟨by show _ ≤ 8000; omega, by show _ ≤ 60000; omega⟩
  have hf1 : cl + 1 ≤ room_R.cells ∧ sl + 6 ≤ room_R.slots := ⟨by show _ ≤ 8000; omega, by show _ ≤ 60000; omega⟩
  have hf2 : cl + 2 ≤ room_R.cells ∧ sl + 12 ≤ room_R.slots := ⟨by show _ ≤ 8000; omega, by show _ ≤ 60000; omega⟩
  have hf3 : cl + 3 ≤ room_R.cells ∧ sl + 18 ≤ room_R.slots := ⟨by show _ ≤ 8000; omega, by show _ ≤ 60000; omega⟩
  have hf4 : cl + 4 ≤ room_R.cells ∧ sl + 24 ≤ room_R.slots := ⟨by show _ ≤ 8000; omega, by show _ ≤ 60000; omega⟩
  have hf5 : cl + 5 ≤ room_R.cells ∧ sl + 30 ≤ room_R.slots := ⟨by show _ ≤ 8000; omega, by show _ ≤ 60000; omega⟩
  have hf6 : cl + 6 ≤ room_R.cells ∧ sl + 36 ≤ room_R.slots := ⟨by show _ ≤ 8000; omega, by show _ ≤ 60000; omega⟩
  have hbA : ¬ zAq s b := Nat.not_le.mpr hbl
  refine z_aload_n (zC_pad Nc C) dL_law_942 rfl 1 rfl ?_
  refine z_iconst (v := 1) (zC_pad Nc C) dL_law_943 (by decide) ?_
  refine z_iload (zC_pad Nc C) dL_law_944 11 rfl ?_
  refine z_iload (zC_pad Nc C) dL_law_946 12 rfl ?_
  refine z_iconst (v := 0) (zC_pad Nc C) dL_law_948 (by decide) ?_
  obtain ⟨r142, er142, hF⟩ := zbd hF
  refine z_gcallH (N := Nc) (n := 5) (As := [.ref ab, .int 1, .int v14, .int v17, .int 0]) (ws' := (zwX7 cI cJ cZ ab a5 a3 a6 a1 a0 Bc Pc Mc r142.2.1 r142.2.2.1 r142.2.2.2.1 r142.2.2.2.2 ++ zwW cI cJ cZ aw Wc Oc)) C XE XN (c_L_refused l hl D cI cJ cZ ab a5 a3 a6 a1 a0 Bc Pc Mc Tc Kc Uc Lc 1 v14 v17 0 r142 er142) gL_law_L_refused rfl (by decide +kernel) ⟨Nat.le_of_ble_eq_true rfl, Nat.le_of_ble_eq_true rfl⟩ hf3 [] (zwW cI cJ cZ aw Wc Oc) rfl rfl rfl rfl (Nat.le_of_ble_eq_true rfl) dL_law_949 ?_
  refine z_iconst (v := 2) (zC_pad (Nc + (if r142.1 = 0 then 0 else 1)) C) dL_law_952 (by decide) ?_
  refine z_icmp_eq (tgt := 1947) (zC_pad (Nc + (if r142.1 = 0 then 0 else 1)) C) dL_law_953 (by decide) (fun c143 => ?_) (fun c143 => ?_)
  · have hF := zif hF c143
    refine z_iinc (v := (v10 + 1)) (lv' := [(10, .int (v10 + 1)), (0, .ref b), (1, .ref ab), (2, .ref (aw 0)), (3, .ref (aw 1)), (4, .ref (aw 2)), (5, .ref (aw 3)), (6, .ref (aw 4)), (7, .ref (aw 5)), (8, .ref (aw 6)), (9, .ref (aw 7)), (14, .int v14), (17, .int v17)]) (zC_pad (Nc + (if r142.1 = 0 then 0 else 1)) C) dL_law_1947 10 rfl rfl (by decide) rfl ?_
    refine z_goto (tgt := 100) (zC_pad (Nc + (if r142.1 = 0 then 0 else 1)) C) dL_law_1950 (by decide) ?_
    refine z_iwiden (k := cl + 6) (n := sl + 36) (by omega) (by omega) ?_
    exact z_sub (zC_pad (Nc + (if r142.1 = 0 then 0 else 1)) C) [1, 2, 3, 4, 5, 6, 7, 8, 9, 10, 0] rfl (hk100 Bc Pc Mc r142.2.1 r142.2.2.1 r142.2.2.2.1 r142.2.2.2.2 Wc Oc (Nc + (if r142.1 = 0 then 0 else 1)) (v10 + 1) hF)
  · have hF := zelse hF c143
    refine z_iconst (v := 0) (zC_pad (Nc + (if r142.1 = 0 then 0 else 1)) C) dL_law_956 (by decide) ?_
    exact absurd hF (fun q => nomatch q)
set_option maxHeartbeats 4000000 in
set_option maxRecDepth 100000 in
theorem c_L_law_j1027 (l : Launch) (hl : l.stackTraces = false) (D : va_G) (cI cJ cZ : ClassId) (ab : Nat) (a5 a3 a6 a1 a0 aw : Nat → Nat) (u : Nat) {p : Program} {e : Env} {s : State} {m : MethodId} {below : List Frame} {meth : Method} {c : Code} {b sL : Nat} {xs : Nat → Int32} (C : zC p s m #[.ref b] meth c cL_law 22 ret RL wsL_law D (zTy cI cJ cZ) (zAq s) s.heap) (XE : zE (zAq s) s s.heap) (XN : zN s) (hX : va_X b sL xs s s.heap) (hbl : b < s.heap.size) (cl sl : Nat) (hc : cl + 6 ≤ 8000) (hs : sl + 36 ≤ 60000) (k100 : SS → SS → SS → SS → SS → SS → SL → SS → SL → Nat → Int32 → Option Nat) (hk100 : ∀ (Bc : SS) (Pc : SS) (Mc : SS) (Tc : SS) (Kc : SS) (Uc : SS) (Lc : SL) (Wc : SS) (Oc : SL) (Nc : Nat) (v10 : Int32), k100 Bc Pc Mc Tc Kc Uc Lc Wc Oc Nc v10 = some u → zW p l e room_R s m #[.ref b] below meth c 22 D (zAq s) (zpad s.heap Nc) (cl + 6) (sl + 36) (lw_Z2 below s u) (zwX7 cI cJ cZ ab a5 a3 a6 a1 a0 Bc Pc Mc Tc Kc Uc Lc ++ zwW cI cJ cZ aw Wc Oc) [(0, .ref b), (1, .ref ab), (2, .ref (aw 0)), (3, .ref (aw 1)), (4, .ref (aw 2)), (5, .ref (aw 3)), (6, .ref (aw 4)), (7, .ref (aw 5)), (8, .ref (aw 6)), (9, .ref (aw 7)), (10, .int v10)] 100 []) (Bc : SS) (Pc : SS) (Mc : SS) (Tc : SS) (Kc : SS) (Uc : SS) (Lc : SL) (Wc : SS) (Oc : SL) (Nc : Nat) (v10 : Int32) (v11 : Int32) (v14 : Int32) (v17 : Int32) (s1 : Int32) (s2 : Int32) (hF : f_L_law_1027 xs sL k100 Bc Pc Mc Tc Kc Uc Lc Wc Oc Nc v10 v11 v14 v17 s1 s2 = some u) : zW p l e room_R s m #[.ref b] below meth c 22 D (zAq s) (zpad s.heap Nc) (cl + 2) (sl + 12) (lw_Z2 below s u) (zwX7 cI cJ cZ ab a5 a3 a6 a1 a0 Bc Pc Mc Tc Kc Uc Lc ++ zwW cI cJ cZ aw Wc Oc) [(0, .ref b), (1, .ref ab), (2, .ref (aw 0)), (3, .ref (aw 1)), (4, .ref (aw 2)), (5, .ref (aw 3)), (6, .ref (aw 4)), (7, .ref (aw 5)), (8, .ref (aw 6)), (9, .ref (aw 7)), (10, .int v10), (11, .int v11), (14, .int v14), (17, .int v17)] 1027 [.int s2, .int s1, .ref (aw 1)] := by
  unfold f_L_law_1027 at hF
  have hf0 : cl + 0 ≤ room_R.cells ∧ sl + 0 ≤ room_R.slots := ⟨by show _ ≤ 8000; omega, by show _ ≤ 60000; omega⟩
  have hf1 : cl + 1 ≤ room_R.cells ∧ sl + 6 ≤ room_R.slots := ⟨by show _ ≤ 8000; omega, by show _ ≤ 60000; omega⟩
  have hf2 : cl + 2 ≤ room_R.cells ∧ sl + 12 ≤ room_R.slots := ⟨by show _ ≤ 8000; omega, by show _ ≤ 60000; omega⟩
  have hf3 : cl + 3 ≤ room_R.cells ∧ sl + 18 ≤ room_R.slots := ⟨by show _ ≤ 8000; omega, by show _ ≤ 60000; omega⟩
  have hf4 : cl + 4 ≤ room_R.cells ∧ sl + 24 ≤ room_R.slots := ⟨by show _ ≤ 8000; omega, by show _ ≤ 60000; omega⟩
  have hf5 : cl + 5 ≤ room_R.cells ∧ sl + 30 ≤ room_R.slots := ⟨by show _ ≤ 8000; omega, by show _ ≤ 60000; omega⟩
  have hf6 : cl + 6 ≤ room_R.cells ∧ sl + 36 ≤ room_R.slots := ⟨by show _ ≤ 8000; omega, by show _ ≤ 60000; omega⟩
  have hbA : ¬ zAq s b := Nat.not_le.mpr hbl
  obtain ⟨g152, hF⟩ := zix_some hF
  refine z_iast (ws' := (zwX7 cI cJ cZ ab a5 a3 a6 a1 a0 Bc Pc Mc Tc Kc Uc Lc ++ zwW cI cJ cZ aw (za Wc 1 s1 s2) Oc)) (zC_pad Nc C) g152 31 rfl rfl dL_law_1027 (za_row Wc 1 s1 s2) (zq_W_1 cI cJ cZ ab a5 a3 a6 a1 a0 Bc Pc Mc Tc Kc Uc Lc aw Wc Oc s1 s2) ?_
  refine z_aload_n (zC_pad Nc C) dL_law_1028 rfl 1 rfl ?_
  refine z_iload (zC_pad Nc C) dL_law_1029 12 rfl ?_
  refine z_iload (zC_pad Nc C) dL_law_1031 13 rfl ?_
  obtain ⟨r153, er153, hF⟩ := zok_some hF
  refine z_gcallV_R (n := 2) (As := [.int v14, .int v17]) (ws' := (zwX7 cI cJ cZ ab a5 a3 a6 a1 a0 Bc Pc Mc r153.2.1 Kc r153.2.2.1 r153.2.2.2 ++ zwW cI cJ cZ aw (za Wc 1 s1 s2) Oc)) (zC_pad Nc C) C XE (zhb_p C) (c_X7_renew l hl D cI cJ cZ ab a5 a3 a6 a1 a0 Bc Pc Mc Tc Kc Uc Lc v14 v17 (.inr r153) er153) gL_law_X7_renew rfl (by decide +kernel) ⟨Nat.le_of_ble_eq_true rfl, Nat.le_of_ble_eq_true rfl⟩ hf2 0 rfl rfl [] (zwW cI cJ cZ aw (za Wc 1 s1 s2) Oc) rfl rfl rfl rfl (Nat.le_of_ble_eq_true rfl) dL_law_1033 ?_
  refine z_aload_n (zC_pad Nc C) dL_law_1036 rfl 3 rfl ?_
  refine z_iconst (v := 5) (zC_pad Nc C) dL_law_1037 (by decide) ?_
  refine z_iload (zC_pad Nc C) dL_law_1038 12 rfl ?_
  refine z_imul (zC_pad Nc C) dL_law_1040 ?_
  refine z_iconst (v := 2) (zC_pad Nc C) dL_law_1041 (by decide) ?_
  refine z_iadd (zC_pad Nc C) dL_law_1042 ?_
  obtain ⟨g154, hF⟩ := zix_some hF
  refine z_iald (v := (((za Wc 1 s1 s2) 1) ((5 * v14) + 2).toNatClampNeg)) (zC_pad Nc C) g154 31 rfl rfl rfl dL_law_1043 ?_
  refine z_icmp_ne (tgt := 1068) (zC_pad Nc C) dL_law_1044 (by decide) (fun c155 => ?_) (fun c155 => ?_)
  · have hF := zelse hF c155
    refine z_iconst (v := 0) (zC_pad Nc C) dL_law_1068 (by decide) ?_
    exact absurd hF (fun q => nomatch q)
  · have hF := zif hF c155
    refine z_aload_n (zC_pad Nc C) dL_law_1047 rfl 1 rfl ?_
    refine z_iconst (v := 1) (zC_pad Nc C) dL_law_1048 (by decide) ?_
    refine z_iload (zC_pad Nc C) dL_law_1049 12 rfl ?_
    refine z_aload_n (zC_pad Nc C) dL_law_1051 rfl 3 rfl ?_
    refine z_iconst (v := 5) (zC_pad Nc C) dL_law_1052 (by decide) ?_
    refine z_iload (zC_pad Nc C) dL_law_1053 12 rfl ?_
    refine z_imul (zC_pad Nc C) dL_law_1055 ?_
    refine z_iconst (v := 2) (zC_pad Nc C) dL_law_1056 (by decide) ?_
    refine z_iadd (zC_pad Nc C) dL_law_1057 ?_
    obtain ⟨g156, hF⟩ := zix_some hF
    refine z_iald (v := (((za Wc 1 s1 s2) 1) ((5 * v14) + 2).toNatClampNeg)) (zC_pad Nc C) g156 31 rfl rfl rfl dL_law_1058 ?_
    refine z_aload_n (zC_pad Nc C) dL_law_1059 rfl 2 rfl ?_
    refine z_aload (zC_pad Nc C) dL_law_1060 9 rfl ?_
    obtain ⟨r157, er157, hF⟩ := zbd hF
    refine z_gcallS (N := Nc) (n := 6) (As := [.ref ab, .int 1, .int v14, .int (((za Wc 1 s1 s2) 1) ((5 * v14) + 2).toNatClampNeg), .ref (aw 0), .ref (aw 7)]) (ws' := (zwX7 cI cJ cZ ab a5 a3 a6 a1 a0 Bc Pc Mc r153.2.1 Kc r153.2.2.1 r153.2.2.2 ++ zwW cI cJ cZ aw r157.2.1 r157.2.2)) C XE XN (c_L_writes l hl D cI cJ cZ ab a5 a3 a6 a1 a0 aw Bc Pc Mc r153.2.1 Kc r153.2.2.1 (za Wc 1 s1 s2) r153.2.2.2 Oc 1 v14 (((za Wc 1 s1 s2) 1) ((5 * v14) + 2).toNatClampNeg) r157 er157) gL_law_L_writes rfl (by decide +kernel) ⟨Nat.le_of_ble_eq_true rfl, Nat.le_of_ble_eq_true rfl⟩ hf2 [] [] zAs7 zAs8 rfl rfl (Nat.le_of_ble_eq_true rfl) dL_law_1062 ?_
    rw [Nat.add_zero]
    refine z_if_ne (tgt := 1070) (zC_pad Nc C) dL_law_1065 (by decide) (fun c158 => ?_) (fun c158 => ?_)
    · have hF := zelse hF c158
      refine z_goto (tgt := 1930) (zC_pad Nc C) dL_law_1070 (by decide) ?_
      refine z_iwiden (k := cl + 3) (n := sl + 18) (by omega) (by omega) ?_
      exact z_sub (zC_pad Nc C) [0, 1, 2, 3, 4, 5, 6, 7, 8, 9, 10, 11] rfl (c_L_law_j1930 l hl D cI cJ cZ ab a5 a3 a6 a1 a0 aw u C XE XN hX hbl cl sl (by omega) (by omega) k100 hk100 Bc Pc Mc r153.2.1 Kc r153.2.2.1 r153.2.2.2 r157.2.1 r157.2.2 Nc v10 v11 hF)
    · have hF := zif hF c158
      refine z_iconst (v := 0) (zC_pad Nc C) dL_law_1068 (by decide) ?_
      exact absurd hF (fun q => nomatch q)
set_option maxHeartbeats 4000000 in
set_option maxRecDepth 100000 in
theorem c_L_law_j992 (l : Launch) (hl : l.stackTraces = false) (D : va_G) (cI cJ cZ : ClassId) (ab : Nat) (a5 a3 a6 a1 a0 aw : Nat → Nat) (u : Nat) {p : Program} {e : Env} {s : State} {m : MethodId} {below : List Frame} {meth : Method} {c : Code} {b sL : Nat} {xs : Nat → Int32} (C : zC p s m #[.ref b] meth c cL_law 22 ret RL wsL_law D (zTy cI cJ cZ) (zAq s) s.heap) (XE : zE (zAq s) s s.heap) (XN : zN s) (hX : va_X b sL xs s s.heap) (hbl : b < s.heap.size) (cl sl : Nat) (hc : cl + 6 ≤ 8000) (hs : sl + 36 ≤ 60000) (k100 : SS → SS → SS → SS → SS → SS → SL → SS → SL → Nat → Int32 → Option Nat) (hk100 : ∀ (Bc : SS) (Pc : SS) (Mc : SS) (Tc : SS) (Kc : SS) (Uc : SS) (Lc : SL) (Wc : SS) (Oc : SL) (Nc : Nat) (v10 : Int32), k100 Bc Pc Mc Tc Kc Uc Lc Wc Oc Nc v10 = some u → zW p l e room_R s m #[.ref b] below meth c 22 D (zAq s) (zpad s.heap Nc) (cl + 6) (sl + 36) (lw_Z2 below s u) (zwX7 cI cJ cZ ab a5 a3 a6 a1 a0 Bc Pc Mc Tc Kc Uc Lc ++ zwW cI cJ cZ aw Wc Oc) [(0, .ref b), (1, .ref ab), (2, .ref (aw 0)), (3, .ref (aw 1)), (4, .ref (aw 2)), (5, .ref (aw 3)), (6, .ref (aw 4)), (7, .ref (aw 5)), (8, .ref (aw 6)), (9, .ref (aw 7)), (10, .int v10)] 100 []) (Bc : SS) (Pc : SS) (Mc : SS) (Tc : SS) (Kc : SS) (Uc : SS) (Lc : SL) (Wc : SS) (Oc : SL) (Nc : Nat) (v10 : Int32) (v11 : Int32) (v14 : Int32) (v17 : Int32) (s0 : Int32) (hF : f_L_law_992 xs sL k100 Bc Pc Mc Tc Kc Uc Lc Wc Oc Nc v10 v11 v14 v17 s0 = some u) : zW p l e room_R s m #[.ref b] below meth c 22 D (zAq s) (zpad s.heap Nc) (cl + 2) (sl + 12) (lw_Z2 below s u) (zwX7 cI cJ cZ ab a5 a3 a6 a1 a0 Bc Pc Mc Tc Kc Uc Lc ++ zwW cI cJ cZ aw Wc Oc) [(0, .ref b), (1, .ref ab), (2, .ref (aw 0)), (3, .ref (aw 1)), (4, .ref (aw 2)), (5, .ref (aw 3)), (6, .ref (aw 4)), (7, .ref (aw 5)), (8, .ref (aw 6)), (9, .ref (aw 7)), (10, .int v10), (11, .int v11), (14, .int v14), (17, .int v17)] 992 [.int s0] := by
  unfold f_L_law_992 at hF
  have hf0 : cl + 0 ≤ room_R.cells ∧ sl + 0 ≤ room_R.slots := ⟨by show _ ≤ 8000; omega, by show _ ≤ 60000; omega⟩
  have hf1 : cl + 1 ≤ room_R.cells ∧ sl + 6 ≤ room_R.slots := ⟨by show _ ≤ 8000; omega, by show _ ≤ 60000; omega⟩
  have hf2 : cl + 2 ≤ room_R.cells ∧ sl + 12 ≤ room_R.slots := ⟨by show _ ≤ 8000; omega, by show _ ≤ 60000; omega⟩
  have hf3 : cl + 3 ≤ room_R.cells ∧ sl + 18 ≤ room_R.slots := ⟨by show _ ≤ 8000; omega, by show _ ≤ 60000; omega⟩
  have hf4 : cl + 4 ≤ room_R.cells ∧ sl + 24 ≤ room_R.slots := ⟨by show _ ≤ 8000; omega, by show _ ≤ 60000; omega⟩
  have hf5 : cl + 5 ≤ room_R.cells ∧ sl + 30 ≤ room_R.slots := ⟨by show _ ≤ 8000; omega, by show _ ≤ 60000; omega⟩
  have hf6 : cl + 6 ≤ room_R.cells ∧ sl + 36 ≤ room_R.slots := ⟨by show _ ≤ 8000; omega, by show _ ≤ 60000; omega⟩
  have hbA : ¬ zAq s b := Nat.not_le.mpr hbl
  refine z_istore (lv' := [(18, .int s0), (0, .ref b), (1, .ref ab), (2, .ref (aw 0)), (3, .ref (aw 1)), (4, .ref (aw 2)), (5, .ref (aw 3)), (6, .ref (aw 4)), (7, .ref (aw 5)), (8, .ref (aw 6)), (9, .ref (aw 7)), (10, .int v10), (11, .int v11), (14, .int v14), (17, .int v17)]) (zC_pad Nc C) dL_law_992 (by decide) rfl ?_
  refine z_aload_n (zC_pad Nc C) dL_law_994 rfl 4 rfl ?_
  refine z_iconst (v := 5) (zC_pad Nc C) dL_law_995 (by decide) ?_
  refine z_iload (zC_pad Nc C) dL_law_996 13 rfl ?_
  refine z_imul (zC_pad Nc C) dL_law_998 ?_
  refine z_iconst (v := 2) (zC_pad Nc C) dL_law_999 (by decide) ?_
  refine z_iadd (zC_pad Nc C) dL_law_1000 ?_
  refine z_iload (zC_pad Nc C) dL_law_1001 0 rfl ?_
  refine z_aload_n (zC_pad Nc C) dL_law_1003 rfl 4 rfl ?_
  refine z_iconst (v := 5) (zC_pad Nc C) dL_law_1004 (by decide) ?_
  refine z_iload (zC_pad Nc C) dL_law_1005 13 rfl ?_
  refine z_imul (zC_pad Nc C) dL_law_1007 ?_
  refine z_iconst (v := 2) (zC_pad Nc C) dL_law_1008 (by decide) ?_
  refine z_iadd (zC_pad Nc C) dL_law_1009 ?_
  obtain ⟨g149, hF⟩ := zix_some hF
  refine z_iald (v := ((Wc 1) ((5 * v14) + 2).toNatClampNeg)) (zC_pad Nc C) g149 31 rfl rfl rfl dL_law_1010 ?_
  refine z_icmp_le (tgt := 1019) (zC_pad Nc C) dL_law_1011 (by decide) (fun c150 => ?_) (fun c150 => ?_)
  · have hF := zif hF c150
    refine z_aload_n (zC_pad Nc C) dL_law_1019 rfl 4 rfl ?_
    refine z_iconst (v := 5) (zC_pad Nc C) dL_law_1020 (by decide) ?_
    refine z_iload (zC_pad Nc C) dL_law_1021 13 rfl ?_
    refine z_imul (zC_pad Nc C) dL_law_1023 ?_
    refine z_iconst (v := 2) (zC_pad Nc C) dL_law_1024 (by decide) ?_
    refine z_iadd (zC_pad Nc C) dL_law_1025 ?_
    obtain ⟨g151, hF⟩ := zix_some hF
    refine z_iald (v := ((Wc 1) ((5 * v14) + 2).toNatClampNeg)) (zC_pad Nc C) g151 31 rfl rfl rfl dL_law_1026 ?_
    exact z_sub (zC_pad Nc C) [1, 2, 3, 4, 5, 6, 7, 8, 9, 10, 11, 12, 13, 14] rfl (c_L_law_j1027 l hl D cI cJ cZ ab a5 a3 a6 a1 a0 aw u C XE XN hX hbl cl sl (by omega) (by omega) k100 hk100 Bc Pc Mc Tc Kc Uc Lc Wc Oc Nc v10 v11 v14 v17 ((5 * v14) + 2) ((Wc 1) ((5 * v14) + 2).toNatClampNeg) hF)
  · have hF := zelse hF c150
    refine z_iload (zC_pad Nc C) dL_law_1014 0 rfl ?_
    refine z_goto (tgt := 1027) (zC_pad Nc C) dL_law_1016 (by decide) ?_
    exact z_sub (zC_pad Nc C) [1, 2, 3, 4, 5, 6, 7, 8, 9, 10, 11, 12, 13, 14] rfl (c_L_law_j1027 l hl D cI cJ cZ ab a5 a3 a6 a1 a0 aw u C XE XN hX hbl cl sl (by omega) (by omega) k100 hk100 Bc Pc Mc Tc Kc Uc Lc Wc Oc Nc v10 v11 v14 v17 ((5 * v14) + 2) s0 hF)
set_option maxHeartbeats 4000000 in
set_option maxRecDepth 100000 in
theorem c_L_law_j884 (l : Launch) (hl : l.stackTraces = false) (D : va_G) (cI cJ cZ : ClassId) (ab : Nat) (a5 a3 a6 a1 a0 aw : Nat → Nat) (u : Nat) {p : Program} {e : Env} {s : State} {m : MethodId} {below : List Frame} {meth : Method} {c : Code} {b sL : Nat} {xs : Nat → Int32} (C : zC p s m #[.ref b] meth c cL_law 22 ret RL wsL_law D (zTy cI cJ cZ) (zAq s) s.heap) (XE : zE (zAq s) s s.heap) (XN : zN s) (hX : va_X b sL xs s s.heap) (hbl : b < s.heap.size) (cl sl : Nat) (hc : cl + 6 ≤ 8000) (hs : sl + 36 ≤ 60000) (k100 : SS → SS → SS → SS → SS → SS → SL → SS → SL → Nat → Int32 → Option Nat) (hk100 : ∀ (Bc : SS) (Pc : SS) (Mc : SS) (Tc : SS) (Kc : SS) (Uc : SS) (Lc : SL) (Wc : SS) (Oc : SL) (Nc : Nat) (v10 : Int32), k100 Bc Pc Mc Tc Kc Uc Lc Wc Oc Nc v10 = some u → zW p l e room_R s m #[.ref b] below meth c 22 D (zAq s) (zpad s.heap Nc) (cl + 6) (sl + 36) (lw_Z2 below s u) (zwX7 cI cJ cZ ab a5 a3 a6 a1 a0 Bc Pc Mc Tc Kc Uc Lc ++ zwW cI cJ cZ aw Wc Oc) [(0, .ref b), (1, .ref ab), (2, .ref (aw 0)), (3, .ref (aw 1)), (4, .ref (aw 2)), (5, .ref (aw 3)), (6, .ref (aw 4)), (7, .ref (aw 5)), (8, .ref (aw 6)), (9, .ref (aw 7)), (10, .int v10)] 100 []) (Bc : SS) (Pc : SS) (Mc : SS) (Tc : SS) (Kc : SS) (Uc : SS) (Lc : SL) (Wc : SS) (Oc : SL) (Nc : Nat) (v10 : Int32) (v11 : Int32) (v14 : Int32) (v20 : Int32) (s1 : Int32) (s2 : Int32) (s3 : Int32) (s4 : Int32) (s5 : Int32) (hF : f_L_law_884 xs sL k100 Bc Pc Mc Tc Kc Uc Lc Wc Oc Nc v10 v11 v14 v20 s1 s2 s3 s4 s5 = some u) : zW p l e room_R s m #[.ref b] below meth c 22 D (zAq s) (zpad s.heap Nc) (cl + 3) (sl + 18) (lw_Z2 below s u) (zwX7 cI cJ cZ ab a5 a3 a6 a1 a0 Bc Pc Mc Tc Kc Uc Lc ++ zwW cI cJ cZ aw Wc Oc) [(0, .ref b), (1, .ref ab), (2, .ref (aw 0)), (3, .ref (aw 1)), (4, .ref (aw 2)), (5, .ref (aw 3)), (6, .ref (aw 4)), (7, .ref (aw 5)), (8, .ref (aw 6)), (9, .ref (aw 7)), (10, .int v10), (11, .int v11), (14, .int v14), (20, .int v20)] 884 [.int s5, .int s4, .int s3, .int s2, .int s1, .ref ab] := by
  unfold f_L_law_884 at hF
  have hf0 : cl + 0 ≤ room_R.cells ∧ sl + 0 ≤ room_R.slots := ⟨by show _ ≤ 8000; omega, by show _ ≤ 60000; omega⟩
  have hf1 : cl + 1 ≤ room_R.cells ∧ sl + 6 ≤ room_R.slots := ⟨by show _ ≤ 8000; omega, by show _ ≤ 60000; omega⟩
  have hf2 : cl + 2 ≤ room_R.cells ∧ sl + 12 ≤ room_R.slots := ⟨by show _ ≤ 8000; omega, by show _ ≤ 60000; omega⟩
  have hf3 : cl + 3 ≤ room_R.cells ∧ sl + 18 ≤ room_R.slots := ⟨by show _ ≤ 8000; omega, by show _ ≤ 60000; omega⟩
  have hf4 : cl + 4 ≤ room_R.cells ∧ sl + 24 ≤ room_R.slots := ⟨by show _ ≤ 8000; omega, by show _ ≤ 60000; omega⟩
  have hf5 : cl + 5 ≤ room_R.cells ∧ sl + 30 ≤ room_R.slots := ⟨by show _ ≤ 8000; omega, by show _ ≤ 60000; omega⟩
  have hf6 : cl + 6 ≤ room_R.cells ∧ sl + 36 ≤ room_R.slots := ⟨by show _ ≤ 8000; omega, by show _ ≤ 60000; omega⟩
  have hbA : ¬ zAq s b := Nat.not_le.mpr hbl
  obtain ⟨r184, er184, hF⟩ := zok_some hF
  refine z_gcallV_R (n := 5) (As := [.int s1, .int s2, .int s3, .int s4, .int s5]) (ws' := (zwX7 cI cJ cZ ab a5 a3 a6 a1 a0 Bc Pc Mc r184.2.1 Kc r184.2.2.1 r184.2.2.2 ++ zwW cI cJ cZ aw Wc Oc)) (zC_pad Nc C) C XE (zhb_p C) (c_X7_create l hl D cI cJ cZ ab a5 a3 a6 a1 a0 Bc Pc Mc Tc Kc Uc Lc s1 s2 s3 s4 s5 (.inr r184) er184) gL_law_X7_create rfl (by decide +kernel) ⟨Nat.le_of_ble_eq_true rfl, Nat.le_of_ble_eq_true rfl⟩ hf3 0 rfl rfl [] (zwW cI cJ cZ aw Wc Oc) rfl rfl rfl rfl (Nat.le_of_ble_eq_true rfl) dL_law_884 ?_
  refine z_iload (zC_pad Nc C) dL_law_887 13 rfl ?_
  refine z_icmp_ne (tgt := 907) (zC_pad Nc C) dL_law_889 (by decide) (fun c185 => ?_) (fun c185 => ?_)
  · have hF := zelse hF c185
    refine z_iconst (v := 0) (zC_pad Nc C) dL_law_907 (by decide) ?_
    exact absurd hF (fun q => nomatch q)
  · have hF := zif hF c185
    refine z_aload_n (zC_pad Nc C) dL_law_892 rfl 1 rfl ?_
    refine z_iconst (v := 0) (zC_pad Nc C) dL_law_893 (by decide) ?_
    refine z_iload (zC_pad Nc C) dL_law_894 12 rfl ?_
    refine z_iload (zC_pad Nc C) dL_law_896 13 rfl ?_
    refine z_aload_n (zC_pad Nc C) dL_law_898 rfl 2 rfl ?_
    refine z_aload (zC_pad Nc C) dL_law_899 9 rfl ?_
    obtain ⟨r186, er186, hF⟩ := zbd hF
    refine z_gcallS (N := Nc) (n := 6) (As := [.ref ab, .int 0, .int v14, .int v20, .ref (aw 0), .ref (aw 7)]) (ws' := (zwX7 cI cJ cZ ab a5 a3 a6 a1 a0 Bc Pc Mc r184.2.1 Kc r184.2.2.1 r184.2.2.2 ++ zwW cI cJ cZ aw r186.2.1 r186.2.2)) C XE XN (c_L_writes l hl D cI cJ cZ ab a5 a3 a6 a1 a0 aw Bc Pc Mc r184.2.1 Kc r184.2.2.1 Wc r184.2.2.2 Oc 0 v14 v20 r186 er186) gL_law_L_writes rfl (by decide +kernel) ⟨Nat.le_of_ble_eq_true rfl, Nat.le_of_ble_eq_true rfl⟩ hf3 [] [] zAs7 zAs8 rfl rfl (Nat.le_of_ble_eq_true rfl) dL_law_901 ?_
    rw [Nat.add_zero]
    refine z_if_ne (tgt := 909) (zC_pad Nc C) dL_law_904 (by decide) (fun c187 => ?_) (fun c187 => ?_)
    · have hF := zelse hF c187
      refine z_goto (tgt := 1930) (zC_pad Nc C) dL_law_909 (by decide) ?_
      exact z_sub (zC_pad Nc C) [0, 1, 2, 3, 4, 5, 6, 7, 8, 9, 10, 11] rfl (c_L_law_j1930 l hl D cI cJ cZ ab a5 a3 a6 a1 a0 aw u C XE XN hX hbl cl sl (by omega) (by omega) k100 hk100 Bc Pc Mc r184.2.1 Kc r184.2.2.1 r184.2.2.2 r186.2.1 r186.2.2 Nc v10 v11 hF)
    · have hF := zif hF c187
      refine z_iconst (v := 0) (zC_pad Nc C) dL_law_907 (by decide) ?_
      exact absurd hF (fun q => nomatch q)
set_option maxHeartbeats 4000000 in
set_option maxRecDepth 100000 in
theorem c_L_law_j844 (l : Launch) (hl : l.stackTraces = false) (D : va_G) (cI cJ cZ : ClassId) (ab : Nat) (a5 a3 a6 a1 a0 aw : Nat → Nat) (u : Nat) {p : Program} {e : Env} {s : State} {m : MethodId} {below : List Frame} {meth : Method} {c : Code} {b sL : Nat} {xs : Nat → Int32} (C : zC p s m #[.ref b] meth c cL_law 22 ret RL wsL_law D (zTy cI cJ cZ) (zAq s) s.heap) (XE : zE (zAq s) s s.heap) (XN : zN s) (hX : va_X b sL xs s s.heap) (hbl : b < s.heap.size) (cl sl : Nat) (hc : cl + 6 ≤ 8000) (hs : sl + 36 ≤ 60000) (k100 : SS → SS → SS → SS → SS → SS → SL → SS → SL → Nat → Int32 → Option Nat) (hk100 : ∀ (Bc : SS) (Pc : SS) (Mc : SS) (Tc : SS) (Kc : SS) (Uc : SS) (Lc : SL) (Wc : SS) (Oc : SL) (Nc : Nat) (v10 : Int32), k100 Bc Pc Mc Tc Kc Uc Lc Wc Oc Nc v10 = some u → zW p l e room_R s m #[.ref b] below meth c 22 D (zAq s) (zpad s.heap Nc) (cl + 6) (sl + 36) (lw_Z2 below s u) (zwX7 cI cJ cZ ab a5 a3 a6 a1 a0 Bc Pc Mc Tc Kc Uc Lc ++ zwW cI cJ cZ aw Wc Oc) [(0, .ref b), (1, .ref ab), (2, .ref (aw 0)), (3, .ref (aw 1)), (4, .ref (aw 2)), (5, .ref (aw 3)), (6, .ref (aw 4)), (7, .ref (aw 5)), (8, .ref (aw 6)), (9, .ref (aw 7)), (10, .int v10)] 100 []) (Bc : SS) (Pc : SS) (Mc : SS) (Tc : SS) (Kc : SS) (Uc : SS) (Lc : SL) (Wc : SS) (Oc : SL) (Nc : Nat) (v10 : Int32) (v11 : Int32) (v14 : Int32) (v17 : Int32) (v18 : Int32) (v19 : Int32) (v20 : Int32) (s1 : Int32) (s2 : Int32) (hF : f_L_law_844 xs sL k100 Bc Pc Mc Tc Kc Uc Lc Wc Oc Nc v10 v11 v14 v17 v18 v19 v20 s1 s2 = some u) : zW p l e room_R s m #[.ref b] below meth c 22 D (zAq s) (zpad s.heap Nc) (cl + 3) (sl + 18) (lw_Z2 below s u) (zwX7 cI cJ cZ ab a5 a3 a6 a1 a0 Bc Pc Mc Tc Kc Uc Lc ++ zwW cI cJ cZ aw Wc Oc) [(0, .ref b), (1, .ref ab), (2, .ref (aw 0)), (3, .ref (aw 1)), (4, .ref (aw 2)), (5, .ref (aw 3)), (6, .ref (aw 4)), (7, .ref (aw 5)), (8, .ref (aw 6)), (9, .ref (aw 7)), (10, .int v10), (11, .int v11), (14, .int v14), (17, .int v17), (18, .int v18), (19, .int v19), (20, .int v20)] 844 [.int s2, .int s1, .ref (aw 1)] := by
  unfold f_L_law_844 at hF
  have hf0 : cl + 0 ≤ room_R.cells ∧ sl + 0 ≤ room_R.slots := ⟨by show _ ≤ 8000; omega, by show _ ≤ 60000; omega⟩
  have hf1 : cl + 1 ≤ room_R.cells ∧ sl + 6 ≤ room_R.slots := ⟨by show _ ≤ 8000; omega, by show _ ≤ 60000; omega⟩
  have hf2 : cl + 2 ≤ room_R.cells ∧ sl + 12 ≤ room_R.slots := ⟨by show _ ≤ 8000; omega, by show _ ≤ 60000; omega⟩
  have hf3 : cl + 3 ≤ room_R.cells ∧ sl + 18 ≤ room_R.slots := ⟨by show _ ≤ 8000; omega, by show _ ≤ 60000; omega⟩
  have hf4 : cl + 4 ≤ room_R.cells ∧ sl + 24 ≤ room_R.slots := ⟨by show _ ≤ 8000; omega, by show _ ≤ 60000; omega⟩
  have hf5 : cl + 5 ≤ room_R.cells ∧ sl + 30 ≤ room_R.slots := ⟨by show _ ≤ 8000; omega, by show _ ≤ 60000; omega⟩
  have hf6 : cl + 6 ≤ room_R.cells ∧ sl + 36 ≤ room_R.slots := ⟨by show _ ≤ 8000; omega, by show _ ≤ 60000; omega⟩
  have hbA : ¬ zAq s b := Nat.not_le.mpr hbl
  obtain ⟨g179, hF⟩ := zix_some hF
  refine z_iast (ws' := (zwX7 cI cJ cZ ab a5 a3 a6 a1 a0 Bc Pc Mc Tc Kc Uc Lc ++ zwW cI cJ cZ aw (za Wc 1 s1 s2) Oc)) (zC_pad Nc C) g179 31 rfl rfl dL_law_844 (za_row Wc 1 s1 s2) (zq_W_1 cI cJ cZ ab a5 a3 a6 a1 a0 Bc Pc Mc Tc Kc Uc Lc aw Wc Oc s1 s2) ?_
  refine z_aload_n (zC_pad Nc C) dL_law_845 rfl 2 rfl ?_
  refine z_iconst (v := 3) (zC_pad Nc C) dL_law_846 (by decide) ?_
  refine z_iload (zC_pad Nc C) dL_law_847 16 rfl ?_
  refine z_iconst (v := 1) (zC_pad Nc C) dL_law_849 (by decide) ?_
  refine z_iadd (zC_pad Nc C) dL_law_850 ?_
  obtain ⟨g180, hF⟩ := zix_some hF
  refine z_iast (ws' := (zwX7 cI cJ cZ ab a5 a3 a6 a1 a0 Bc Pc Mc Tc Kc Uc Lc ++ zwW cI cJ cZ aw (za (za Wc 1 s1 s2) 0 3 (v20 + 1)) Oc)) (zC_pad Nc C) g180 30 rfl rfl dL_law_851 (za_row (za Wc 1 s1 s2) 0 3 (v20 + 1)) (zq_W_0 cI cJ cZ ab a5 a3 a6 a1 a0 Bc Pc Mc Tc Kc Uc Lc aw (za Wc 1 s1 s2) Oc 3 (v20 + 1)) ?_
  refine z_aload_n (zC_pad Nc C) dL_law_852 rfl 1 rfl ?_
  refine z_iload (zC_pad Nc C) dL_law_853 12 rfl ?_
  refine z_iload (zC_pad Nc C) dL_law_855 15 rfl ?_
  refine z_iload (zC_pad Nc C) dL_law_857 13 rfl ?_
  refine z_iload (zC_pad Nc C) dL_law_859 14 rfl ?_
  refine z_aload_n (zC_pad Nc C) dL_law_861 rfl 3 rfl ?_
  refine z_iconst (v := 5) (zC_pad Nc C) dL_law_862 (by decide) ?_
  refine z_iload (zC_pad Nc C) dL_law_863 16 rfl ?_
  refine z_imul (zC_pad Nc C) dL_law_865 ?_
  refine z_iconst (v := 4) (zC_pad Nc C) dL_law_866 (by decide) ?_
  refine z_iadd (zC_pad Nc C) dL_law_867 ?_
  obtain ⟨g181, hF⟩ := zix_some hF
  refine z_iald (v := (((za (za Wc 1 s1 s2) 0 3 (v20 + 1)) 1) ((5 * v20) + 4).toNatClampNeg)) (zC_pad Nc C) g181 31 rfl rfl rfl dL_law_868 ?_
  refine z_if_ge (tgt := 876) (zC_pad Nc C) dL_law_869 (by decide) (fun c182 => ?_) (fun c182 => ?_)
  · have hF := zif hF c182
    refine z_aload_n (zC_pad Nc C) dL_law_876 rfl 3 rfl ?_
    refine z_iconst (v := 5) (zC_pad Nc C) dL_law_877 (by decide) ?_
    refine z_iload (zC_pad Nc C) dL_law_878 16 rfl ?_
    refine z_imul (zC_pad Nc C) dL_law_880 ?_
    refine z_iconst (v := 4) (zC_pad Nc C) dL_law_881 (by decide) ?_
    refine z_iadd (zC_pad Nc C) dL_law_882 ?_
    obtain ⟨g183, hF⟩ := zix_some hF
    refine z_iald (v := (((za (za Wc 1 s1 s2) 0 3 (v20 + 1)) 1) ((5 * v20) + 4).toNatClampNeg)) (zC_pad Nc C) g183 31 rfl rfl rfl dL_law_883 ?_
    exact z_sub (zC_pad Nc C) [0, 1, 2, 3, 4, 5, 6, 7, 8, 9, 10, 11, 12, 16] rfl (c_L_law_j884 l hl D cI cJ cZ ab a5 a3 a6 a1 a0 aw u C XE XN hX hbl cl sl (by omega) (by omega) k100 hk100 Bc Pc Mc Tc Kc Uc Lc (za (za Wc 1 s1 s2) 0 3 (v20 + 1)) Oc Nc v10 v11 v14 v20 v14 v19 v17 v18 (((za (za Wc 1 s1 s2) 0 3 (v20 + 1)) 1) ((5 * v20) + 4).toNatClampNeg) hF)
  · have hF := zelse hF c182
    refine z_iconst (v := 0) (zC_pad Nc C) dL_law_872 (by decide) ?_
    refine z_goto (tgt := 884) (zC_pad Nc C) dL_law_873 (by decide) ?_
    exact z_sub (zC_pad Nc C) [0, 1, 2, 3, 4, 5, 6, 7, 8, 9, 10, 11, 12, 16] rfl (c_L_law_j884 l hl D cI cJ cZ ab a5 a3 a6 a1 a0 aw u C XE XN hX hbl cl sl (by omega) (by omega) k100 hk100 Bc Pc Mc Tc Kc Uc Lc (za (za Wc 1 s1 s2) 0 3 (v20 + 1)) Oc Nc v10 v11 v14 v20 v14 v19 v17 v18 0 hF)
set_option maxHeartbeats 4000000 in
set_option maxRecDepth 100000 in
theorem c_L_law_j759 (l : Launch) (hl : l.stackTraces = false) (D : va_G) (cI cJ cZ : ClassId) (ab : Nat) (a5 a3 a6 a1 a0 aw : Nat → Nat) (u : Nat) {p : Program} {e : Env} {s : State} {m : MethodId} {below : List Frame} {meth : Method} {c : Code} {b sL : Nat} {xs : Nat → Int32} (C : zC p s m #[.ref b] meth c cL_law 22 ret RL wsL_law D (zTy cI cJ cZ) (zAq s) s.heap) (XE : zE (zAq s) s s.heap) (XN : zN s) (hX : va_X b sL xs s s.heap) (hbl : b < s.heap.size) (cl sl : Nat) (hc : cl + 6 ≤ 8000) (hs : sl + 36 ≤ 60000) (k100 : SS → SS → SS → SS → SS → SS → SL → SS → SL → Nat → Int32 → Option Nat) (hk100 : ∀ (Bc : SS) (Pc : SS) (Mc : SS) (Tc : SS) (Kc : SS) (Uc : SS) (Lc : SL) (Wc : SS) (Oc : SL) (Nc : Nat) (v10 : Int32), k100 Bc Pc Mc Tc Kc Uc Lc Wc Oc Nc v10 = some u → zW p l e room_R s m #[.ref b] below meth c 22 D (zAq s) (zpad s.heap Nc) (cl + 6) (sl + 36) (lw_Z2 below s u) (zwX7 cI cJ cZ ab a5 a3 a6 a1 a0 Bc Pc Mc Tc Kc Uc Lc ++ zwW cI cJ cZ aw Wc Oc) [(0, .ref b), (1, .ref ab), (2, .ref (aw 0)), (3, .ref (aw 1)), (4, .ref (aw 2)), (5, .ref (aw 3)), (6, .ref (aw 4)), (7, .ref (aw 5)), (8, .ref (aw 6)), (9, .ref (aw 7)), (10, .int v10)] 100 []) (Bc : SS) (Pc : SS) (Mc : SS) (Tc : SS) (Kc : SS) (Uc : SS) (Lc : SL) (Wc : SS) (Oc : SL) (Nc : Nat) (v10 : Int32) (v11 : Int32) (v12 : Int32) (v14 : Int32) (v17 : Int32) (v18 : Int32) (v19 : Int32) (hF : f_L_law_759 xs sL k100 Bc Pc Mc Tc Kc Uc Lc Wc Oc Nc v10 v11 v12 v14 v17 v18 v19 = some u) : zW p l e room_R s m #[.ref b] below meth c 22 D (zAq s) (zpad s.heap Nc) (cl + 3) (sl + 18) (lw_Z2 below s u) (zwX7 cI cJ cZ ab a5 a3 a6 a1 a0 Bc Pc Mc Tc Kc Uc Lc ++ zwW cI cJ cZ aw Wc Oc) [(0, .ref b), (1, .ref ab), (2, .ref (aw 0)), (3, .ref (aw 1)), (4, .ref (aw 2)), (5, .ref (aw 3)), (6, .ref (aw 4)), (7, .ref (aw 5)), (8, .ref (aw 6)), (9, .ref (aw 7)), (10, .int v10), (11, .int v11), (12, .int v12), (14, .int v14), (17, .int v17), (18, .int v18), (19, .int v19)] 759 [] := by
  unfold f_L_law_759 at hF
  have hf0 : cl + 0 ≤ room_R.cells ∧ sl + 0 ≤ room_R.slots := ⟨by show _ ≤ 8000; omega, by show _ ≤ 60000; omega⟩
  have hf1 : cl + 1 ≤ room_R.cells ∧ sl + 6 ≤ room_R.slots := ⟨by show _ ≤ 8000; omega, by show _ ≤ 60000; omega⟩
  have hf2 : cl + 2 ≤ room_R.cells ∧ sl + 12 ≤ room_R.slots := ⟨by show _ ≤ 8000; omega, by show _ ≤ 60000; omega⟩
  have hf3 : cl + 3 ≤ room_R.cells ∧ sl + 18 ≤ room_R.slots := ⟨by show _ ≤ 8000; omega, by show _ ≤ 60000; omega⟩
  have hf4 : cl + 4 ≤ room_R.cells ∧ sl + 24 ≤ room_R.slots := ⟨by show _ ≤ 8000; omega, by show _ ≤ 60000; omega⟩
  have hf5 : cl + 5 ≤ room_R.cells ∧ sl + 30 ≤ room_R.slots := ⟨by show _ ≤ 8000; omega, by show _ ≤ 60000; omega⟩
  have hf6 : cl + 6 ≤ room_R.cells ∧ sl + 36 ≤ room_R.slots := ⟨by show _ ≤ 8000; omega, by show _ ≤ 60000; omega⟩
  have hbA : ¬ zAq s b := Nat.not_le.mpr hbl
  refine z_aload_n (zC_pad Nc C) dL_law_759 rfl 2 rfl ?_
  refine z_iconst (v := 3) (zC_pad Nc C) dL_law_760 (by decide) ?_
  obtain ⟨g169, hF⟩ := zix_some hF
  refine z_iald (v := ((Wc 0) (3 : Int32).toNatClampNeg)) (zC_pad Nc C) g169 30 rfl rfl rfl dL_law_761 ?_
  refine z_istore (lv' := [(20, .int ((Wc 0) (3 : Int32).toNatClampNeg)), (0, .ref b), (1, .ref ab), (2, .ref (aw 0)), (3, .ref (aw 1)), (4, .ref (aw 2)), (5, .ref (aw 3)), (6, .ref (aw 4)), (7, .ref (aw 5)), (8, .ref (aw 6)), (9, .ref (aw 7)), (10, .int v10), (11, .int v11), (12, .int v12), (14, .int v14), (17, .int v17), (18, .int v18), (19, .int v19)]) (zC_pad Nc C) dL_law_762 (by decide) rfl ?_
  refine z_aload_n (zC_pad Nc C) dL_law_764 rfl 4 rfl ?_
  refine z_iconst (v := 5) (zC_pad Nc C) dL_law_765 (by decide) ?_
  refine z_iload (zC_pad Nc C) dL_law_766 0 rfl ?_
  refine z_imul (zC_pad Nc C) dL_law_768 ?_
  refine z_iload (zC_pad Nc C) dL_law_769 14 rfl ?_
  obtain ⟨g170, hF⟩ := zix_some hF
  refine z_iast (ws' := (zwX7 cI cJ cZ ab a5 a3 a6 a1 a0 Bc Pc Mc Tc Kc Uc Lc ++ zwW cI cJ cZ aw (za Wc 1 (5 * ((Wc 0) (3 : Int32).toNatClampNeg)) v14) Oc)) (zC_pad Nc C) g170 31 rfl rfl dL_law_771 (za_row Wc 1 (5 * ((Wc 0) (3 : Int32).toNatClampNeg)) v14) (zq_W_1 cI cJ cZ ab a5 a3 a6 a1 a0 Bc Pc Mc Tc Kc Uc Lc aw Wc Oc (5 * ((Wc 0) (3 : Int32).toNatClampNeg)) v14) ?_
  refine z_aload_n (zC_pad Nc C) dL_law_772 rfl 4 rfl ?_
  refine z_iconst (v := 5) (zC_pad Nc C) dL_law_773 (by decide) ?_
  refine z_iload (zC_pad Nc C) dL_law_774 0 rfl ?_
  refine z_imul (zC_pad Nc C) dL_law_776 ?_
  refine z_iconst (v := 1) (zC_pad Nc C) dL_law_777 (by decide) ?_
  refine z_iadd (zC_pad Nc C) dL_law_778 ?_
  refine z_iload (zC_pad Nc C) dL_law_779 17 rfl ?_
  obtain ⟨g171, hF⟩ := zix_some hF
  refine z_iast (ws' := (zwX7 cI cJ cZ ab a5 a3 a6 a1 a0 Bc Pc Mc Tc Kc Uc Lc ++ zwW cI cJ cZ aw (za (za Wc 1 (5 * ((Wc 0) (3 : Int32).toNatClampNeg)) v14) 1 ((5 * ((Wc 0) (3 : Int32).toNatClampNeg)) + 1) v19) Oc)) (zC_pad Nc C) g171 31 rfl rfl dL_law_781 (za_row (za Wc 1 (5 * ((Wc 0) (3 : Int32).toNatClampNeg)) v14) 1 ((5 * ((Wc 0) (3 : Int32).toNatClampNeg)) + 1) v19) (zq_W_1 cI cJ cZ ab a5 a3 a6 a1 a0 Bc Pc Mc Tc Kc Uc Lc aw (za Wc 1 (5 * ((Wc 0) (3 : Int32).toNatClampNeg)) v14) Oc ((5 * ((Wc 0) (3 : Int32).toNatClampNeg)) + 1) v19) ?_
  refine z_aload_n (zC_pad Nc C) dL_law_782 rfl 4 rfl ?_
  refine z_iconst (v := 5) (zC_pad Nc C) dL_law_783 (by decide) ?_
  refine z_iload (zC_pad Nc C) dL_law_784 0 rfl ?_
  refine z_imul (zC_pad Nc C) dL_law_786 ?_
  refine z_iconst (v := 2) (zC_pad Nc C) dL_law_787 (by decide) ?_
  refine z_iadd (zC_pad Nc C) dL_law_788 ?_
  refine z_aload_n (zC_pad Nc C) dL_law_789 rfl 3 rfl ?_
  refine z_iconst (v := 0) (zC_pad Nc C) dL_law_790 (by decide) ?_
  obtain ⟨g172, hF⟩ := zix_some hF
  refine z_iald (v := ((Wc 0) (0 : Int32).toNatClampNeg)) (zC_pad Nc C) g172 30 rfl rfl rfl dL_law_791 ?_
  refine z_iload (zC_pad Nc C) dL_law_792 15 rfl ?_
  refine z_iadd (zC_pad Nc C) dL_law_794 ?_
  obtain ⟨g173, hF⟩ := zix_some hF
  refine z_iast (ws' := (zwX7 cI cJ cZ ab a5 a3 a6 a1 a0 Bc Pc Mc Tc Kc Uc Lc ++ zwW cI cJ cZ aw (za (za (za Wc 1 (5 * ((Wc 0) (3 : Int32).toNatClampNeg)) v14) 1 ((5 * ((Wc 0) (3 : Int32).toNatClampNeg)) + 1) v19) 1 ((5 * ((Wc 0) (3 : Int32).toNatClampNeg)) + 2) (((Wc 0) (0 : Int32).toNatClampNeg) + v17)) Oc)) (zC_pad Nc C) g173 31 rfl rfl dL_law_795 (za_row (za (za Wc 1 (5 * ((Wc 0) (3 : Int32).toNatClampNeg)) v14) 1 ((5 * ((Wc 0) (3 : Int32).toNatClampNeg)) + 1) v19) 1 ((5 * ((Wc 0) (3 : Int32).toNatClampNeg)) + 2) (((Wc 0) (0 : Int32).toNatClampNeg) + v17)) (zq_W_1 cI cJ cZ ab a5 a3 a6 a1 a0 Bc Pc Mc Tc Kc Uc Lc aw (za (za Wc 1 (5 * ((Wc 0) (3 : Int32).toNatClampNeg)) v14) 1 ((5 * ((Wc 0) (3 : Int32).toNatClampNeg)) + 1) v19) Oc ((5 * ((Wc 0) (3 : Int32).toNatClampNeg)) + 2) (((Wc 0) (0 : Int32).toNatClampNeg) + v17)) ?_
  refine z_aload_n (zC_pad Nc C) dL_law_796 rfl 4 rfl ?_
  refine z_iconst (v := 5) (zC_pad Nc C) dL_law_797 (by decide) ?_
  refine z_iload (zC_pad Nc C) dL_law_798 0 rfl ?_
  refine z_imul (zC_pad Nc C) dL_law_800 ?_
  refine z_iconst (v := 3) (zC_pad Nc C) dL_law_801 (by decide) ?_
  refine z_iadd (zC_pad Nc C) dL_law_802 ?_
  refine z_aload_n (zC_pad Nc C) dL_law_803 rfl 3 rfl ?_
  refine z_iconst (v := 0) (zC_pad Nc C) dL_law_804 (by decide) ?_
  obtain ⟨g174, hF⟩ := zix_some hF
  refine z_iald (v := ((Wc 0) (0 : Int32).toNatClampNeg)) (zC_pad Nc C) g174 30 rfl rfl rfl dL_law_805 ?_
  refine z_iload (zC_pad Nc C) dL_law_806 16 rfl ?_
  refine z_iadd (zC_pad Nc C) dL_law_808 ?_
  obtain ⟨g175, hF⟩ := zix_some hF
  refine z_iast (ws' := (zwX7 cI cJ cZ ab a5 a3 a6 a1 a0 Bc Pc Mc Tc Kc Uc Lc ++ zwW cI cJ cZ aw (za (za (za (za Wc 1 (5 * ((Wc 0) (3 : Int32).toNatClampNeg)) v14) 1 ((5 * ((Wc 0) (3 : Int32).toNatClampNeg)) + 1) v19) 1 ((5 * ((Wc 0) (3 : Int32).toNatClampNeg)) + 2) (((Wc 0) (0 : Int32).toNatClampNeg) + v17)) 1 ((5 * ((Wc 0) (3 : Int32).toNatClampNeg)) + 3) (((Wc 0) (0 : Int32).toNatClampNeg) + v18)) Oc)) (zC_pad Nc C) g175 31 rfl rfl dL_law_809 (za_row (za (za (za Wc 1 (5 * ((Wc 0) (3 : Int32).toNatClampNeg)) v14) 1 ((5 * ((Wc 0) (3 : Int32).toNatClampNeg)) + 1) v19) 1 ((5 * ((Wc 0) (3 : Int32).toNatClampNeg)) + 2) (((Wc 0) (0 : Int32).toNatClampNeg) + v17)) 1 ((5 * ((Wc 0) (3 : Int32).toNatClampNeg)) + 3) (((Wc 0) (0 : Int32).toNatClampNeg) + v18)) (zq_W_1 cI cJ cZ ab a5 a3 a6 a1 a0 Bc Pc Mc Tc Kc Uc Lc aw (za (za (za Wc 1 (5 * ((Wc 0) (3 : Int32).toNatClampNeg)) v14) 1 ((5 * ((Wc 0) (3 : Int32).toNatClampNeg)) + 1) v19) 1 ((5 * ((Wc 0) (3 : Int32).toNatClampNeg)) + 2) (((Wc 0) (0 : Int32).toNatClampNeg) + v17)) Oc ((5 * ((Wc 0) (3 : Int32).toNatClampNeg)) + 3) (((Wc 0) (0 : Int32).toNatClampNeg) + v18)) ?_
  refine z_aload_n (zC_pad Nc C) dL_law_810 rfl 4 rfl ?_
  refine z_iconst (v := 5) (zC_pad Nc C) dL_law_811 (by decide) ?_
  refine z_iload (zC_pad Nc C) dL_law_812 0 rfl ?_
  refine z_imul (zC_pad Nc C) dL_law_814 ?_
  refine z_iconst (v := 4) (zC_pad Nc C) dL_law_815 (by decide) ?_
  refine z_iadd (zC_pad Nc C) dL_law_816 ?_
  refine z_iload (zC_pad Nc C) dL_law_817 12 rfl ?_
  refine z_bipush (v := 9) (zC_pad Nc C) dL_law_819 (by decide) ?_
  refine z_ishr (zC_pad Nc C) dL_law_821 ?_
  refine z_iconst (v := 2) (zC_pad Nc C) dL_law_822 (by decide) ?_
  obtain ⟨r176, er176, hF⟩ := zbd hF
  refine z_callS (n := 2) (As := [.int (v11 >>> (9 &&& 31)), .int 2]) (zC_pad Nc C) (c_L_low l D cI cJ cZ (v11 >>> (9 &&& 31)) 2 r176 er176) gL_law_L_low rfl rfl rfl (by decide +kernel) ⟨Nat.le_of_ble_eq_true rfl, Nat.le_of_ble_eq_true rfl⟩ hf3 rfl rfl (Nat.le_of_ble_eq_true rfl) dL_law_823 ?_
  refine z_if_ne (tgt := 833) (zC_pad Nc C) dL_law_826 (by decide) (fun c177 => ?_) (fun c177 => ?_)
  · have hF := zelse hF c177
    refine z_iconst (v := 1) (zC_pad Nc C) dL_law_833 (by decide) ?_
    refine z_iload (zC_pad Nc C) dL_law_834 13 rfl ?_
    refine z_bipush (v := 20) (zC_pad Nc C) dL_law_836 (by decide) ?_
    refine z_ishr (zC_pad Nc C) dL_law_838 ?_
    refine z_iconst (v := 3) (zC_pad Nc C) dL_law_839 (by decide) ?_
    obtain ⟨r178, er178, hF⟩ := zbd hF
    refine z_callS (n := 2) (As := [.int (v12 >>> (20 &&& 31)), .int 3]) (zC_pad Nc C) (c_L_low l D cI cJ cZ (v12 >>> (20 &&& 31)) 3 r178 er178) gL_law_L_low rfl rfl rfl (by decide +kernel) ⟨Nat.le_of_ble_eq_true rfl, Nat.le_of_ble_eq_true rfl⟩ hf3 rfl rfl (Nat.le_of_ble_eq_true rfl) dL_law_840 ?_
    refine z_iadd (zC_pad Nc C) dL_law_843 ?_
    exact z_sub (zC_pad Nc C) [1, 2, 3, 4, 5, 6, 7, 8, 9, 10, 11, 12, 14, 15, 16, 17, 0] rfl (c_L_law_j844 l hl D cI cJ cZ ab a5 a3 a6 a1 a0 aw u C XE XN hX hbl cl sl (by omega) (by omega) k100 hk100 Bc Pc Mc Tc Kc Uc Lc (za (za (za (za Wc 1 (5 * ((Wc 0) (3 : Int32).toNatClampNeg)) v14) 1 ((5 * ((Wc 0) (3 : Int32).toNatClampNeg)) + 1) v19) 1 ((5 * ((Wc 0) (3 : Int32).toNatClampNeg)) + 2) (((Wc 0) (0 : Int32).toNatClampNeg) + v17)) 1 ((5 * ((Wc 0) (3 : Int32).toNatClampNeg)) + 3) (((Wc 0) (0 : Int32).toNatClampNeg) + v18)) Oc Nc v10 v11 v14 v17 v18 v19 ((Wc 0) (3 : Int32).toNatClampNeg) ((5 * ((Wc 0) (3 : Int32).toNatClampNeg)) + 4) (1 + r178) hF)
  · have hF := zif hF c177
    refine z_iconst (v := (-1)) (zC_pad Nc C) dL_law_829 (by decide) ?_
    refine z_goto (tgt := 844) (zC_pad Nc C) dL_law_830 (by decide) ?_
    exact z_sub (zC_pad Nc C) [1, 2, 3, 4, 5, 6, 7, 8, 9, 10, 11, 12, 14, 15, 16, 17, 0] rfl (c_L_law_j844 l hl D cI cJ cZ ab a5 a3 a6 a1 a0 aw u C XE XN hX hbl cl sl (by omega) (by omega) k100 hk100 Bc Pc Mc Tc Kc Uc Lc (za (za (za (za Wc 1 (5 * ((Wc 0) (3 : Int32).toNatClampNeg)) v14) 1 ((5 * ((Wc 0) (3 : Int32).toNatClampNeg)) + 1) v19) 1 ((5 * ((Wc 0) (3 : Int32).toNatClampNeg)) + 2) (((Wc 0) (0 : Int32).toNatClampNeg) + v17)) 1 ((5 * ((Wc 0) (3 : Int32).toNatClampNeg)) + 3) (((Wc 0) (0 : Int32).toNatClampNeg) + v18)) Oc Nc v10 v11 v14 v17 v18 v19 ((Wc 0) (3 : Int32).toNatClampNeg) ((5 * ((Wc 0) (3 : Int32).toNatClampNeg)) + 4) (-1) hF)
set_option maxHeartbeats 4000000 in
set_option maxRecDepth 100000 in
theorem c_L_law_j686 (l : Launch) (hl : l.stackTraces = false) (D : va_G) (cI cJ cZ : ClassId) (ab : Nat) (a5 a3 a6 a1 a0 aw : Nat → Nat) (u : Nat) {p : Program} {e : Env} {s : State} {m : MethodId} {below : List Frame} {meth : Method} {c : Code} {b sL : Nat} {xs : Nat → Int32} (C : zC p s m #[.ref b] meth c cL_law 22 ret RL wsL_law D (zTy cI cJ cZ) (zAq s) s.heap) (XE : zE (zAq s) s s.heap) (XN : zN s) (hX : va_X b sL xs s s.heap) (hbl : b < s.heap.size) (cl sl : Nat) (hc : cl + 6 ≤ 8000) (hs : sl + 36 ≤ 60000) (k100 : SS → SS → SS → SS → SS → SS → SL → SS → SL → Nat → Int32 → Option Nat) (hk100 : ∀ (Bc : SS) (Pc : SS) (Mc : SS) (Tc : SS) (Kc : SS) (Uc : SS) (Lc : SL) (Wc : SS) (Oc : SL) (Nc : Nat) (v10 : Int32), k100 Bc Pc Mc Tc Kc Uc Lc Wc Oc Nc v10 = some u → zW p l e room_R s m #[.ref b] below meth c 22 D (zAq s) (zpad s.heap Nc) (cl + 6) (sl + 36) (lw_Z2 below s u) (zwX7 cI cJ cZ ab a5 a3 a6 a1 a0 Bc Pc Mc Tc Kc Uc Lc ++ zwW cI cJ cZ aw Wc Oc) [(0, .ref b), (1, .ref ab), (2, .ref (aw 0)), (3, .ref (aw 1)), (4, .ref (aw 2)), (5, .ref (aw 3)), (6, .ref (aw 4)), (7, .ref (aw 5)), (8, .ref (aw 6)), (9, .ref (aw 7)), (10, .int v10)] 100 []) (Bc : SS) (Pc : SS) (Mc : SS) (Tc : SS) (Kc : SS) (Uc : SS) (Lc : SL) (Wc : SS) (Oc : SL) (Nc : Nat) (v10 : Int32) (v11 : Int32) (v12 : Int32) (v14 : Int32) (v15 : Int32) (v17 : Int32) (v18 : Int32) (s0 : Int32) (hF : f_L_law_686 xs sL k100 Bc Pc Mc Tc Kc Uc Lc Wc Oc Nc v10 v11 v12 v14 v15 v17 v18 s0 = some u) : zW p l e room_R s m #[.ref b] below meth c 22 D (zAq s) (zpad s.heap Nc) (cl + 2) (sl + 12) (lw_Z2 below s u) (zwX7 cI cJ cZ ab a5 a3 a6 a1 a0 Bc Pc Mc Tc Kc Uc Lc ++ zwW cI cJ cZ aw Wc Oc) [(0, .ref b), (1, .ref ab), (2, .ref (aw 0)), (3, .ref (aw 1)), (4, .ref (aw 2)), (5, .ref (aw 3)), (6, .ref (aw 4)), (7, .ref (aw 5)), (8, .ref (aw 6)), (9, .ref (aw 7)), (10, .int v10), (11, .int v11), (12, .int v12), (14, .int v14), (15, .int v15), (17, .int v17), (18, .int v18)] 686 [.int s0] := by
  unfold f_L_law_686 at hF
  have hf0 : cl + 0 ≤ room_R.cells ∧ sl + 0 ≤ room_R.slots := ⟨by show _ ≤ 8000; omega, by show _ ≤ 60000; omega⟩
  have hf1 : cl + 1 ≤ room_R.cells ∧ sl + 6 ≤ room_R.slots := ⟨by show _ ≤ 8000; omega, by show _ ≤ 60000; omega⟩
  have hf2 : cl + 2 ≤ room_R.cells ∧ sl + 12 ≤ room_R.slots := ⟨by show _ ≤ 8000; omega, by show _ ≤ 60000; omega⟩
  have hf3 : cl + 3 ≤ room_R.cells ∧ sl + 18 ≤ room_R.slots := ⟨by show _ ≤ 8000; omega, by show _ ≤ 60000; omega⟩
  have hf4 : cl + 4 ≤ room_R.cells ∧ sl + 24 ≤ room_R.slots := ⟨by show _ ≤ 8000; omega, by show _ ≤ 60000; omega⟩
  have hf5 : cl + 5 ≤ room_R.cells ∧ sl + 30 ≤ room_R.slots := ⟨by show _ ≤ 8000; omega, by show _ ≤ 60000; omega⟩
  have hf6 : cl + 6 ≤ room_R.cells ∧ sl + 36 ≤ room_R.slots := ⟨by show _ ≤ 8000; omega, by show _ ≤ 60000; omega⟩
  have hbA : ¬ zAq s b := Nat.not_le.mpr hbl
  refine z_istore (lv' := [(19, .int s0), (0, .ref b), (1, .ref ab), (2, .ref (aw 0)), (3, .ref (aw 1)), (4, .ref (aw 2)), (5, .ref (aw 3)), (6, .ref (aw 4)), (7, .ref (aw 5)), (8, .ref (aw 6)), (9, .ref (aw 7)), (10, .int v10), (11, .int v11), (12, .int v12), (14, .int v14), (15, .int v15), (17, .int v17), (18, .int v18)]) (zC_pad Nc C) dL_law_686 (by decide) rfl ?_
  refine z_aload_n (zC_pad Nc C) dL_law_688 rfl 3 rfl ?_
  refine z_iconst (v := 3) (zC_pad Nc C) dL_law_689 (by decide) ?_
  obtain ⟨g165, hF⟩ := zix_some hF
  refine z_iald (v := ((Wc 0) (3 : Int32).toNatClampNeg)) (zC_pad Nc C) g165 30 rfl rfl rfl dL_law_690 ?_
  refine z_bipush (v := 12) (zC_pad Nc C) dL_law_691 (by decide) ?_
  refine z_icmp_ne (tgt := 699) (zC_pad Nc C) dL_law_693 (by decide) (fun c166 => ?_) (fun c166 => ?_)
  · have hF := zelse hF c166
    refine z_iload (zC_pad Nc C) dL_law_699 15 rfl ?_
    refine z_if_ne (tgt := 721) (zC_pad Nc C) dL_law_701 (by decide) (fun c167 => ?_) (fun c167 => ?_)
    · have hF := zelse hF c167
      refine z_iload (zC_pad Nc C) dL_law_721 14 rfl ?_
      refine z_if_le (tgt := 759) (zC_pad Nc C) dL_law_723 (by decide) (fun c168 => ?_) (fun c168 => ?_)
      · have hF := zif hF c168
        refine z_iwiden (k := cl + 3) (n := sl + 18) (by omega) (by omega) ?_
        exact z_sub (zC_pad Nc C) [1, 2, 3, 4, 5, 6, 7, 8, 9, 10, 11, 12, 13, 14, 16, 17, 0] rfl (c_L_law_j759 l hl D cI cJ cZ ab a5 a3 a6 a1 a0 aw u C XE XN hX hbl cl sl (by omega) (by omega) k100 hk100 Bc Pc Mc Tc Kc Uc Lc Wc Oc Nc v10 v11 v12 v14 v17 v18 s0 hF)
      · have hF := zelse hF c168
        refine z_bipush (v := 7) (zC_pad Nc C) dL_law_726 (by decide) ?_
        refine z_aload_n (zC_pad Nc C) dL_law_728 rfl 4 rfl ?_
        refine z_iconst (v := 5) (zC_pad Nc C) dL_law_729 (by decide) ?_
        refine z_iload (zC_pad Nc C) dL_law_730 14 rfl ?_
        refine z_imul (zC_pad Nc C) dL_law_732 ?_
        refine z_iconst (v := 1) (zC_pad Nc C) dL_law_733 (by decide) ?_
        refine z_iadd (zC_pad Nc C) dL_law_734 ?_
        obtain ⟨g188, hF⟩ := zix_some hF
        refine z_iald (v := ((Wc 1) ((5 * v14) + 1).toNatClampNeg)) (zC_pad Nc C) g188 31 rfl rfl rfl dL_law_735 ?_
        refine z_iconst (v := (-1)) (zC_pad Nc C) dL_law_736 (by decide) ?_
        refine z_ixor (zC_pad Nc C) dL_law_737 ?_
        refine z_iand (zC_pad Nc C) dL_law_738 ?_
        refine z_if_eq (tgt := 759) (zC_pad Nc C) dL_law_739 (by decide) (fun c189 => ?_) (fun c189 => ?_)
        · have hF := zif hF c189
          refine z_iwiden (k := cl + 3) (n := sl + 18) (by omega) (by omega) ?_
          exact z_sub (zC_pad Nc C) [1, 2, 3, 4, 5, 6, 7, 8, 9, 10, 11, 12, 13, 14, 16, 17, 0] rfl (c_L_law_j759 l hl D cI cJ cZ ab a5 a3 a6 a1 a0 aw u C XE XN hX hbl cl sl (by omega) (by omega) k100 hk100 Bc Pc Mc Tc Kc Uc Lc Wc Oc Nc v10 v11 v12 v14 v17 v18 s0 hF)
        · have hF := zelse hF c189
          refine z_aload_n (zC_pad Nc C) dL_law_742 rfl 2 rfl ?_
          refine z_iconst (v := 0) (zC_pad Nc C) dL_law_743 (by decide) ?_
          refine z_iload (zC_pad Nc C) dL_law_744 14 rfl ?_
          refine z_bipush (v := 7) (zC_pad Nc C) dL_law_746 (by decide) ?_
          refine z_iload (zC_pad Nc C) dL_law_748 16 rfl ?_
          obtain ⟨r190, er190, hF⟩ := zbd hF
          refine z_gcallH (N := Nc) (n := 5) (As := [.ref ab, .int 0, .int v14, .int 7, .int v17]) (ws' := (zwX7 cI cJ cZ ab a5 a3 a6 a1 a0 Bc Pc Mc r190.2.1 r190.2.2.1 r190.2.2.2.1 r190.2.2.2.2 ++ zwW cI cJ cZ aw Wc Oc)) C XE XN (c_L_refused l hl D cI cJ cZ ab a5 a3 a6 a1 a0 Bc Pc Mc Tc Kc Uc Lc 0 v14 7 v17 r190 er190) gL_law_L_refused rfl (by decide +kernel) ⟨Nat.le_of_ble_eq_true rfl, Nat.le_of_ble_eq_true rfl⟩ hf3 [] (zwW cI cJ cZ aw Wc Oc) rfl rfl rfl rfl (Nat.le_of_ble_eq_true rfl) dL_law_750 ?_
          refine z_iconst (v := 1) (zC_pad (Nc + (if r190.1 = 0 then 0 else 1)) C) dL_law_753 (by decide) ?_
          refine z_icmp_eq (tgt := 759) (zC_pad (Nc + (if r190.1 = 0 then 0 else 1)) C) dL_law_754 (by decide) (fun c191 => ?_) (fun c191 => ?_)
          · have hF := zif hF c191
            exact z_sub (zC_pad (Nc + (if r190.1 = 0 then 0 else 1)) C) [1, 2, 3, 4, 5, 6, 7, 8, 9, 10, 11, 12, 13, 14, 16, 17, 0] rfl (c_L_law_j759 l hl D cI cJ cZ ab a5 a3 a6 a1 a0 aw u C XE XN hX hbl cl sl (by omega) (by omega) k100 hk100 Bc Pc Mc r190.2.1 r190.2.2.1 r190.2.2.2.1 r190.2.2.2.2 Wc Oc (Nc + (if r190.1 = 0 then 0 else 1)) v10 v11 v12 v14 v17 v18 s0 hF)
          · have hF := zelse hF c191
            refine z_iconst (v := 0) (zC_pad (Nc + (if r190.1 = 0 then 0 else 1)) C) dL_law_757 (by decide) ?_
            exact absurd hF (fun q => nomatch q)
    · have hF := zif hF c167
      refine z_aload_n (zC_pad Nc C) dL_law_704 rfl 2 rfl ?_
      refine z_iconst (v := 0) (zC_pad Nc C) dL_law_705 (by decide) ?_
      refine z_iload (zC_pad Nc C) dL_law_706 14 rfl ?_
      refine z_iload (zC_pad Nc C) dL_law_708 0 rfl ?_
      refine z_iload (zC_pad Nc C) dL_law_710 16 rfl ?_
      obtain ⟨r192, er192, hF⟩ := zbd hF
      refine z_gcallH (N := Nc) (n := 5) (As := [.ref ab, .int 0, .int v14, .int s0, .int v17]) (ws' := (zwX7 cI cJ cZ ab a5 a3 a6 a1 a0 Bc Pc Mc r192.2.1 r192.2.2.1 r192.2.2.2.1 r192.2.2.2.2 ++ zwW cI cJ cZ aw Wc Oc)) C XE XN (c_L_refused l hl D cI cJ cZ ab a5 a3 a6 a1 a0 Bc Pc Mc Tc Kc Uc Lc 0 v14 s0 v17 r192 er192) gL_law_L_refused rfl (by decide +kernel) ⟨Nat.le_of_ble_eq_true rfl, Nat.le_of_ble_eq_true rfl⟩ hf3 [] (zwW cI cJ cZ aw Wc Oc) rfl rfl rfl rfl (Nat.le_of_ble_eq_true rfl) dL_law_712 ?_
      refine z_iconst (v := 2) (zC_pad (Nc + (if r192.1 = 0 then 0 else 1)) C) dL_law_715 (by decide) ?_
      refine z_icmp_eq (tgt := 1947) (zC_pad (Nc + (if r192.1 = 0 then 0 else 1)) C) dL_law_716 (by decide) (fun c193 => ?_) (fun c193 => ?_)
      · have hF := zif hF c193
        refine z_iinc (v := (v10 + 1)) (lv' := [(10, .int (v10 + 1)), (19, .int s0), (0, .ref b), (1, .ref ab), (2, .ref (aw 0)), (3, .ref (aw 1)), (4, .ref (aw 2)), (5, .ref (aw 3)), (6, .ref (aw 4)), (7, .ref (aw 5)), (8, .ref (aw 6)), (9, .ref (aw 7)), (11, .int v11), (12, .int v12), (14, .int v14), (15, .int v15), (17, .int v17), (18, .int v18)]) (zC_pad (Nc + (if r192.1 = 0 then 0 else 1)) C) dL_law_1947 11 rfl rfl (by decide) rfl ?_
        refine z_goto (tgt := 100) (zC_pad (Nc + (if r192.1 = 0 then 0 else 1)) C) dL_law_1950 (by decide) ?_
        refine z_iwiden (k := cl + 6) (n := sl + 36) (by omega) (by omega) ?_
        exact z_sub (zC_pad (Nc + (if r192.1 = 0 then 0 else 1)) C) [2, 3, 4, 5, 6, 7, 8, 9, 10, 11, 0] rfl (hk100 Bc Pc Mc r192.2.1 r192.2.2.1 r192.2.2.2.1 r192.2.2.2.2 Wc Oc (Nc + (if r192.1 = 0 then 0 else 1)) (v10 + 1) hF)
      · have hF := zelse hF c193
        refine z_iconst (v := 0) (zC_pad (Nc + (if r192.1 = 0 then 0 else 1)) C) dL_law_719 (by decide) ?_
        exact absurd hF (fun q => nomatch q)
  · have hF := zif hF c166
    refine z_goto (tgt := 1947) (zC_pad Nc C) dL_law_696 (by decide) ?_
    refine z_iinc (v := (v10 + 1)) (lv' := [(10, .int (v10 + 1)), (19, .int s0), (0, .ref b), (1, .ref ab), (2, .ref (aw 0)), (3, .ref (aw 1)), (4, .ref (aw 2)), (5, .ref (aw 3)), (6, .ref (aw 4)), (7, .ref (aw 5)), (8, .ref (aw 6)), (9, .ref (aw 7)), (11, .int v11), (12, .int v12), (14, .int v14), (15, .int v15), (17, .int v17), (18, .int v18)]) (zC_pad Nc C) dL_law_1947 11 rfl rfl (by decide) rfl ?_
    refine z_goto (tgt := 100) (zC_pad Nc C) dL_law_1950 (by decide) ?_
    refine z_iwiden (k := cl + 6) (n := sl + 36) (by omega) (by omega) ?_
    exact z_sub (zC_pad Nc C) [2, 3, 4, 5, 6, 7, 8, 9, 10, 11, 0] rfl (hk100 Bc Pc Mc Tc Kc Uc Lc Wc Oc Nc (v10 + 1) hF)
set_option maxHeartbeats 4000000 in
set_option maxRecDepth 100000 in
theorem c_L_law_j523 (l : Launch) (hl : l.stackTraces = false) (D : va_G) (cI cJ cZ : ClassId) (ab : Nat) (a5 a3 a6 a1 a0 aw : Nat → Nat) (u : Nat) {p : Program} {e : Env} {s : State} {m : MethodId} {below : List Frame} {meth : Method} {c : Code} {b sL : Nat} {xs : Nat → Int32} (C : zC p s m #[.ref b] meth c cL_law 22 ret RL wsL_law D (zTy cI cJ cZ) (zAq s) s.heap) (XE : zE (zAq s) s s.heap) (XN : zN s) (hX : va_X b sL xs s s.heap) (hbl : b < s.heap.size) (cl sl : Nat) (hc : cl + 6 ≤ 8000) (hs : sl + 36 ≤ 60000) (k100 : SS → SS → SS → SS → SS → SS → SL → SS → SL → Nat → Int32 → Option Nat) (hk100 : ∀ (Bc : SS) (Pc : SS) (Mc : SS) (Tc : SS) (Kc : SS) (Uc : SS) (Lc : SL) (Wc : SS) (Oc : SL) (Nc : Nat) (v10 : Int32), k100 Bc Pc Mc Tc Kc Uc Lc Wc Oc Nc v10 = some u → zW p l e room_R s m #[.ref b] below meth c 22 D (zAq s) (zpad s.heap Nc) (cl + 6) (sl + 36) (lw_Z2 below s u) (zwX7 cI cJ cZ ab a5 a3 a6 a1 a0 Bc Pc Mc Tc Kc Uc Lc ++ zwW cI cJ cZ aw Wc Oc) [(0, .ref b), (1, .ref ab), (2, .ref (aw 0)), (3, .ref (aw 1)), (4, .ref (aw 2)), (5, .ref (aw 3)), (6, .ref (aw 4)), (7, .ref (aw 5)), (8, .ref (aw 6)), (9, .ref (aw 7)), (10, .int v10)] 100 []) (Bc : SS) (Pc : SS) (Mc : SS) (Tc : SS) (Kc : SS) (Uc : SS) (Lc : SL) (Wc : SS) (Oc : SL) (Nc : Nat) (v10 : Int32) (v11 : Int32) (v12 : Int32) (v17 : Int32) (v18 : Int32) (s1 : Int32) (s2 : Int32) (s3 : Int32) (hF : f_L_law_523 xs sL k100 Bc Pc Mc Tc Kc Uc Lc Wc Oc Nc v10 v11 v12 v17 v18 s1 s2 s3 = some u) : zW p l e room_R s m #[.ref b] below meth c 22 D (zAq s) (zpad s.heap Nc) (cl + 2) (sl + 12) (lw_Z2 below s u) (zwX7 cI cJ cZ ab a5 a3 a6 a1 a0 Bc Pc Mc Tc Kc Uc Lc ++ zwW cI cJ cZ aw Wc Oc) [(0, .ref b), (1, .ref ab), (2, .ref (aw 0)), (3, .ref (aw 1)), (4, .ref (aw 2)), (5, .ref (aw 3)), (6, .ref (aw 4)), (7, .ref (aw 5)), (8, .ref (aw 6)), (9, .ref (aw 7)), (10, .int v10), (11, .int v11), (12, .int v12), (17, .int v17), (18, .int v18)] 523 [.int s3, .int s2, .int s1, .ref (aw 0)] := by
  unfold f_L_law_523 at hF
  have hf0 : cl + 0 ≤ room_R.cells ∧ sl + 0 ≤ room_R.slots := ⟨by show _ ≤ 8000; omega, by show _ ≤ 60000; omega⟩
  have hf1 : cl + 1 ≤ room_R.cells ∧ sl + 6 ≤ room_R.slots := ⟨by show _ ≤ 8000; omega, by show _ ≤ 60000; omega⟩
  have hf2 : cl + 2 ≤ room_R.cells ∧ sl + 12 ≤ room_R.slots := ⟨by show _ ≤ 8000; omega, by show _ ≤ 60000; omega⟩
  have hf3 : cl + 3 ≤ room_R.cells ∧ sl + 18 ≤ room_R.slots := ⟨by show _ ≤ 8000; omega, by show _ ≤ 60000; omega⟩
  have hf4 : cl + 4 ≤ room_R.cells ∧ sl + 24 ≤ room_R.slots := ⟨by show _ ≤ 8000; omega, by show _ ≤ 60000; omega⟩
  have hf5 : cl + 5 ≤ room_R.cells ∧ sl + 30 ≤ room_R.slots := ⟨by show _ ≤ 8000; omega, by show _ ≤ 60000; omega⟩
  have hf6 : cl + 6 ≤ room_R.cells ∧ sl + 36 ≤ room_R.slots := ⟨by show _ ≤ 8000; omega, by show _ ≤ 60000; omega⟩
  have hbA : ¬ zAq s b := Nat.not_le.mpr hbl
  refine z_iadd (zC_pad Nc C) dL_law_523 ?_
  obtain ⟨g202, hF⟩ := zix_some hF
  refine z_iast (ws' := (zwX7 cI cJ cZ ab a5 a3 a6 a1 a0 Bc Pc Mc Tc Kc Uc Lc ++ zwW cI cJ cZ aw (za Wc 0 s1 (s2 + s3)) Oc)) (zC_pad Nc C) g202 30 rfl rfl dL_law_524 (za_row Wc 0 s1 (s2 + s3)) (zq_W_0 cI cJ cZ ab a5 a3 a6 a1 a0 Bc Pc Mc Tc Kc Uc Lc aw Wc Oc s1 (s2 + s3)) ?_
  refine z_aload (zC_pad Nc C) dL_law_525 8 rfl ?_
  refine z_iconst (v := 3) (zC_pad Nc C) dL_law_527 (by decide) ?_
  refine z_iload (zC_pad Nc C) dL_law_528 14 rfl ?_
  refine z_imul (zC_pad Nc C) dL_law_530 ?_
  refine z_iload (zC_pad Nc C) dL_law_531 13 rfl ?_
  obtain ⟨g203, hF⟩ := zix_some hF
  refine z_iast (ws' := (zwX7 cI cJ cZ ab a5 a3 a6 a1 a0 Bc Pc Mc Tc Kc Uc Lc ++ zwW cI cJ cZ aw (za (za Wc 0 s1 (s2 + s3)) 6 (3 * v18) v17) Oc)) (zC_pad Nc C) g203 36 rfl rfl dL_law_533 (za_row (za Wc 0 s1 (s2 + s3)) 6 (3 * v18) v17) (zq_W_6 cI cJ cZ ab a5 a3 a6 a1 a0 Bc Pc Mc Tc Kc Uc Lc aw (za Wc 0 s1 (s2 + s3)) Oc (3 * v18) v17) ?_
  refine z_aload (zC_pad Nc C) dL_law_534 8 rfl ?_
  refine z_iconst (v := 3) (zC_pad Nc C) dL_law_536 (by decide) ?_
  refine z_iload (zC_pad Nc C) dL_law_537 14 rfl ?_
  refine z_imul (zC_pad Nc C) dL_law_539 ?_
  refine z_iconst (v := 1) (zC_pad Nc C) dL_law_540 (by decide) ?_
  refine z_iadd (zC_pad Nc C) dL_law_541 ?_
  refine z_iconst (v := 1) (zC_pad Nc C) dL_law_542 (by decide) ?_
  refine z_iload (zC_pad Nc C) dL_law_543 12 rfl ?_
  refine z_bipush (v := 30) (zC_pad Nc C) dL_law_545 (by decide) ?_
  obtain ⟨r204, er204, hF⟩ := zbd hF
  refine z_callS (n := 2) (As := [.int v12, .int 30]) (zC_pad Nc C) (c_L_low l D cI cJ cZ v12 30 r204 er204) gL_law_L_low rfl rfl rfl (by decide +kernel) ⟨Nat.le_of_ble_eq_true rfl, Nat.le_of_ble_eq_true rfl⟩ hf2 rfl rfl (Nat.le_of_ble_eq_true rfl) dL_law_547 ?_
  refine z_iadd (zC_pad Nc C) dL_law_550 ?_
  obtain ⟨g205, hF⟩ := zix_some hF
  refine z_iast (ws' := (zwX7 cI cJ cZ ab a5 a3 a6 a1 a0 Bc Pc Mc Tc Kc Uc Lc ++ zwW cI cJ cZ aw (za (za (za Wc 0 s1 (s2 + s3)) 6 (3 * v18) v17) 6 ((3 * v18) + 1) (1 + r204)) Oc)) (zC_pad Nc C) g205 36 rfl rfl dL_law_551 (za_row (za (za Wc 0 s1 (s2 + s3)) 6 (3 * v18) v17) 6 ((3 * v18) + 1) (1 + r204)) (zq_W_6 cI cJ cZ ab a5 a3 a6 a1 a0 Bc Pc Mc Tc Kc Uc Lc aw (za (za Wc 0 s1 (s2 + s3)) 6 (3 * v18) v17) Oc ((3 * v18) + 1) (1 + r204)) ?_
  refine z_aload (zC_pad Nc C) dL_law_552 8 rfl ?_
  refine z_iconst (v := 3) (zC_pad Nc C) dL_law_554 (by decide) ?_
  refine z_iload (zC_pad Nc C) dL_law_555 14 rfl ?_
  refine z_imul (zC_pad Nc C) dL_law_557 ?_
  refine z_iconst (v := 2) (zC_pad Nc C) dL_law_558 (by decide) ?_
  refine z_iadd (zC_pad Nc C) dL_law_559 ?_
  refine z_aload (zC_pad Nc C) dL_law_560 8 rfl ?_
  refine z_iconst (v := 3) (zC_pad Nc C) dL_law_562 (by decide) ?_
  refine z_iload (zC_pad Nc C) dL_law_563 14 rfl ?_
  refine z_imul (zC_pad Nc C) dL_law_565 ?_
  refine z_iconst (v := 1) (zC_pad Nc C) dL_law_566 (by decide) ?_
  refine z_iadd (zC_pad Nc C) dL_law_567 ?_
  obtain ⟨g206, hF⟩ := zix_some hF
  refine z_iald (v := (((za (za (za Wc 0 s1 (s2 + s3)) 6 (3 * v18) v17) 6 ((3 * v18) + 1) (1 + r204)) 6) ((3 * v18) + 1).toNatClampNeg)) (zC_pad Nc C) g206 36 rfl rfl rfl dL_law_568 ?_
  refine z_iload (zC_pad Nc C) dL_law_569 12 rfl ?_
  refine z_bipush (v := 6) (zC_pad Nc C) dL_law_571 (by decide) ?_
  refine z_ishr (zC_pad Nc C) dL_law_573 ?_
  refine z_bipush (v := 40) (zC_pad Nc C) dL_law_574 (by decide) ?_
  obtain ⟨r207, er207, hF⟩ := zbd hF
  refine z_callS (n := 2) (As := [.int (v12 >>> (6 &&& 31)), .int 40]) (zC_pad Nc C) (c_L_low l D cI cJ cZ (v12 >>> (6 &&& 31)) 40 r207 er207) gL_law_L_low rfl rfl rfl (by decide +kernel) ⟨Nat.le_of_ble_eq_true rfl, Nat.le_of_ble_eq_true rfl⟩ hf2 rfl rfl (Nat.le_of_ble_eq_true rfl) dL_law_576 ?_
  refine z_iadd (zC_pad Nc C) dL_law_579 ?_
  obtain ⟨g208, hF⟩ := zix_some hF
  refine z_iast (ws' := (zwX7 cI cJ cZ ab a5 a3 a6 a1 a0 Bc Pc Mc Tc Kc Uc Lc ++ zwW cI cJ cZ aw (za (za (za (za Wc 0 s1 (s2 + s3)) 6 (3 * v18) v17) 6 ((3 * v18) + 1) (1 + r204)) 6 ((3 * v18) + 2) ((((za (za (za Wc 0 s1 (s2 + s3)) 6 (3 * v18) v17) 6 ((3 * v18) + 1) (1 + r204)) 6) ((3 * v18) + 1).toNatClampNeg) + r207)) Oc)) (zC_pad Nc C) g208 36 rfl rfl dL_law_580 (za_row (za (za (za Wc 0 s1 (s2 + s3)) 6 (3 * v18) v17) 6 ((3 * v18) + 1) (1 + r204)) 6 ((3 * v18) + 2) ((((za (za (za Wc 0 s1 (s2 + s3)) 6 (3 * v18) v17) 6 ((3 * v18) + 1) (1 + r204)) 6) ((3 * v18) + 1).toNatClampNeg) + r207)) (zq_W_6 cI cJ cZ ab a5 a3 a6 a1 a0 Bc Pc Mc Tc Kc Uc Lc aw (za (za (za Wc 0 s1 (s2 + s3)) 6 (3 * v18) v17) 6 ((3 * v18) + 1) (1 + r204)) Oc ((3 * v18) + 2) ((((za (za (za Wc 0 s1 (s2 + s3)) 6 (3 * v18) v17) 6 ((3 * v18) + 1) (1 + r204)) 6) ((3 * v18) + 1).toNatClampNeg) + r207)) ?_
  refine z_aload_n (zC_pad Nc C) dL_law_581 rfl 1 rfl ?_
  refine z_iload (zC_pad Nc C) dL_law_582 13 rfl ?_
  refine z_aload (zC_pad Nc C) dL_law_584 8 rfl ?_
  refine z_iconst (v := 3) (zC_pad Nc C) dL_law_586 (by decide) ?_
  refine z_iload (zC_pad Nc C) dL_law_587 14 rfl ?_
  refine z_imul (zC_pad Nc C) dL_law_589 ?_
  refine z_iconst (v := 1) (zC_pad Nc C) dL_law_590 (by decide) ?_
  refine z_iadd (zC_pad Nc C) dL_law_591 ?_
  obtain ⟨g209, hF⟩ := zix_some hF
  refine z_iald (v := (((za (za (za (za Wc 0 s1 (s2 + s3)) 6 (3 * v18) v17) 6 ((3 * v18) + 1) (1 + r204)) 6 ((3 * v18) + 2) ((((za (za (za Wc 0 s1 (s2 + s3)) 6 (3 * v18) v17) 6 ((3 * v18) + 1) (1 + r204)) 6) ((3 * v18) + 1).toNatClampNeg) + r207)) 6) ((3 * v18) + 1).toNatClampNeg)) (zC_pad Nc C) g209 36 rfl rfl rfl dL_law_592 ?_
  refine z_aload (zC_pad Nc C) dL_law_593 8 rfl ?_
  refine z_iconst (v := 3) (zC_pad Nc C) dL_law_595 (by decide) ?_
  refine z_iload (zC_pad Nc C) dL_law_596 14 rfl ?_
  refine z_imul (zC_pad Nc C) dL_law_598 ?_
  refine z_iconst (v := 2) (zC_pad Nc C) dL_law_599 (by decide) ?_
  refine z_iadd (zC_pad Nc C) dL_law_600 ?_
  obtain ⟨g210, hF⟩ := zix_some hF
  refine z_iald (v := (((za (za (za (za Wc 0 s1 (s2 + s3)) 6 (3 * v18) v17) 6 ((3 * v18) + 1) (1 + r204)) 6 ((3 * v18) + 2) ((((za (za (za Wc 0 s1 (s2 + s3)) 6 (3 * v18) v17) 6 ((3 * v18) + 1) (1 + r204)) 6) ((3 * v18) + 1).toNatClampNeg) + r207)) 6) ((3 * v18) + 2).toNatClampNeg)) (zC_pad Nc C) g210 36 rfl rfl rfl dL_law_601 ?_
  obtain ⟨r211, er211, hF⟩ := zok_some hF
  refine z_gcallV_R (n := 3) (As := [.int v17, .int (((za (za (za (za Wc 0 s1 (s2 + s3)) 6 (3 * v18) v17) 6 ((3 * v18) + 1) (1 + r204)) 6 ((3 * v18) + 2) ((((za (za (za Wc 0 s1 (s2 + s3)) 6 (3 * v18) v17) 6 ((3 * v18) + 1) (1 + r204)) 6) ((3 * v18) + 1).toNatClampNeg) + r207)) 6) ((3 * v18) + 1).toNatClampNeg), .int (((za (za (za (za Wc 0 s1 (s2 + s3)) 6 (3 * v18) v17) 6 ((3 * v18) + 1) (1 + r204)) 6 ((3 * v18) + 2) ((((za (za (za Wc 0 s1 (s2 + s3)) 6 (3 * v18) v17) 6 ((3 * v18) + 1) (1 + r204)) 6) ((3 * v18) + 1).toNatClampNeg) + r207)) 6) ((3 * v18) + 2).toNatClampNeg)]) (ws' := (zwX7 cI cJ cZ ab a5 a3 a6 a1 a0 Bc Pc r211.2 Tc Kc Uc Lc ++ zwW cI cJ cZ aw (za (za (za (za Wc 0 s1 (s2 + s3)) 6 (3 * v18) v17) 6 ((3 * v18) + 1) (1 + r204)) 6 ((3 * v18) + 2) ((((za (za (za Wc 0 s1 (s2 + s3)) 6 (3 * v18) v17) 6 ((3 * v18) + 1) (1 + r204)) 6) ((3 * v18) + 1).toNatClampNeg) + r207)) Oc)) (zC_pad Nc C) C XE (zhb_p C) (c_X7_mount l hl D cI cJ cZ ab a5 a3 a6 a1 a0 Bc Pc Mc Tc Kc Uc Lc v17 (((za (za (za (za Wc 0 s1 (s2 + s3)) 6 (3 * v18) v17) 6 ((3 * v18) + 1) (1 + r204)) 6 ((3 * v18) + 2) ((((za (za (za Wc 0 s1 (s2 + s3)) 6 (3 * v18) v17) 6 ((3 * v18) + 1) (1 + r204)) 6) ((3 * v18) + 1).toNatClampNeg) + r207)) 6) ((3 * v18) + 1).toNatClampNeg) (((za (za (za (za Wc 0 s1 (s2 + s3)) 6 (3 * v18) v17) 6 ((3 * v18) + 1) (1 + r204)) 6 ((3 * v18) + 2) ((((za (za (za Wc 0 s1 (s2 + s3)) 6 (3 * v18) v17) 6 ((3 * v18) + 1) (1 + r204)) 6) ((3 * v18) + 1).toNatClampNeg) + r207)) 6) ((3 * v18) + 2).toNatClampNeg) (.inr r211) er211) gL_law_X7_mount rfl (by decide +kernel) ⟨Nat.le_of_ble_eq_true rfl, Nat.le_of_ble_eq_true rfl⟩ hf2 0 rfl rfl [] (zwW cI cJ cZ aw (za (za (za (za Wc 0 s1 (s2 + s3)) 6 (3 * v18) v17) 6 ((3 * v18) + 1) (1 + r204)) 6 ((3 * v18) + 2) ((((za (za (za Wc 0 s1 (s2 + s3)) 6 (3 * v18) v17) 6 ((3 * v18) + 1) (1 + r204)) 6) ((3 * v18) + 1).toNatClampNeg) + r207)) Oc) rfl rfl rfl rfl (Nat.le_of_ble_eq_true rfl) dL_law_602 ?_
  refine z_aload_n (zC_pad Nc C) dL_law_605 rfl 2 rfl ?_
  refine z_iconst (v := 2) (zC_pad Nc C) dL_law_606 (by decide) ?_
  obtain ⟨g212, hF⟩ := zix_some hF
  refine z_iald (v := (((za (za (za (za Wc 0 s1 (s2 + s3)) 6 (3 * v18) v17) 6 ((3 * v18) + 1) (1 + r204)) 6 ((3 * v18) + 2) ((((za (za (za Wc 0 s1 (s2 + s3)) 6 (3 * v18) v17) 6 ((3 * v18) + 1) (1 + r204)) 6) ((3 * v18) + 1).toNatClampNeg) + r207)) 0) (2 : Int32).toNatClampNeg)) (zC_pad Nc C) g212 30 rfl rfl rfl dL_law_607 ?_
  refine z_icmp_eq (tgt := 613) (zC_pad Nc C) dL_law_608 (by decide) (fun c213 => ?_) (fun c213 => ?_)
  · have hF := zif hF c213
    refine z_goto (tgt := 1930) (zC_pad Nc C) dL_law_613 (by decide) ?_
    refine z_iwiden (k := cl + 3) (n := sl + 18) (by omega) (by omega) ?_
    exact z_sub (zC_pad Nc C) [0, 1, 2, 3, 4, 5, 6, 7, 8, 9, 10, 11] rfl (c_L_law_j1930 l hl D cI cJ cZ ab a5 a3 a6 a1 a0 aw u C XE XN hX hbl cl sl (by omega) (by omega) k100 hk100 Bc Pc r211.2 Tc Kc Uc Lc (za (za (za (za Wc 0 s1 (s2 + s3)) 6 (3 * v18) v17) 6 ((3 * v18) + 1) (1 + r204)) 6 ((3 * v18) + 2) ((((za (za (za Wc 0 s1 (s2 + s3)) 6 (3 * v18) v17) 6 ((3 * v18) + 1) (1 + r204)) 6) ((3 * v18) + 1).toNatClampNeg) + r207)) Oc Nc v10 v11 hF)
  · have hF := zelse hF c213
    refine z_iconst (v := 0) (zC_pad Nc C) dL_law_611 (by decide) ?_
    exact absurd hF (fun q => nomatch q)
set_option maxHeartbeats 4000000 in
set_option maxRecDepth 100000 in
theorem c_L_law_j497 (l : Launch) (hl : l.stackTraces = false) (D : va_G) (cI cJ cZ : ClassId) (ab : Nat) (a5 a3 a6 a1 a0 aw : Nat → Nat) (u : Nat) {p : Program} {e : Env} {s : State} {m : MethodId} {below : List Frame} {meth : Method} {c : Code} {b sL : Nat} {xs : Nat → Int32} (C : zC p s m #[.ref b] meth c cL_law 22 ret RL wsL_law D (zTy cI cJ cZ) (zAq s) s.heap) (XE : zE (zAq s) s s.heap) (XN : zN s) (hX : va_X b sL xs s s.heap) (hbl : b < s.heap.size) (cl sl : Nat) (hc : cl + 6 ≤ 8000) (hs : sl + 36 ≤ 60000) (k100 : SS → SS → SS → SS → SS → SS → SL → SS → SL → Nat → Int32 → Option Nat) (hk100 : ∀ (Bc : SS) (Pc : SS) (Mc : SS) (Tc : SS) (Kc : SS) (Uc : SS) (Lc : SL) (Wc : SS) (Oc : SL) (Nc : Nat) (v10 : Int32), k100 Bc Pc Mc Tc Kc Uc Lc Wc Oc Nc v10 = some u → zW p l e room_R s m #[.ref b] below meth c 22 D (zAq s) (zpad s.heap Nc) (cl + 6) (sl + 36) (lw_Z2 below s u) (zwX7 cI cJ cZ ab a5 a3 a6 a1 a0 Bc Pc Mc Tc Kc Uc Lc ++ zwW cI cJ cZ aw Wc Oc) [(0, .ref b), (1, .ref ab), (2, .ref (aw 0)), (3, .ref (aw 1)), (4, .ref (aw 2)), (5, .ref (aw 3)), (6, .ref (aw 4)), (7, .ref (aw 5)), (8, .ref (aw 6)), (9, .ref (aw 7)), (10, .int v10)] 100 []) (Bc : SS) (Pc : SS) (Mc : SS) (Tc : SS) (Kc : SS) (Uc : SS) (Lc : SL) (Wc : SS) (Oc : SL) (Nc : Nat) (v10 : Int32) (v11 : Int32) (v12 : Int32) (v17 : Int32) (v18 : Int32) (hF : f_L_law_497 xs sL k100 Bc Pc Mc Tc Kc Uc Lc Wc Oc Nc v10 v11 v12 v17 v18 = some u) : zW p l e room_R s m #[.ref b] below meth c 22 D (zAq s) (zpad s.heap Nc) (cl + 2) (sl + 12) (lw_Z2 below s u) (zwX7 cI cJ cZ ab a5 a3 a6 a1 a0 Bc Pc Mc Tc Kc Uc Lc ++ zwW cI cJ cZ aw Wc Oc) [(0, .ref b), (1, .ref ab), (2, .ref (aw 0)), (3, .ref (aw 1)), (4, .ref (aw 2)), (5, .ref (aw 3)), (6, .ref (aw 4)), (7, .ref (aw 5)), (8, .ref (aw 6)), (9, .ref (aw 7)), (10, .int v10), (11, .int v11), (12, .int v12), (17, .int v17), (18, .int v18)] 497 [] := by
  unfold f_L_law_497 at hF
  have hf0 : cl + 0 ≤ room_R.cells ∧ sl + 0 ≤ room_R.slots := ⟨by show _ ≤ 8000; omega, by show _ ≤ 60000; omega⟩
  have hf1 : cl + 1 ≤ room_R.cells ∧ sl + 6 ≤ room_R.slots := ⟨by show _ ≤ 8000; omega, by show _ ≤ 60000; omega⟩
  have hf2 : cl + 2 ≤ room_R.cells ∧ sl + 12 ≤ room_R.slots := ⟨by show _ ≤ 8000; omega, by show _ ≤ 60000; omega⟩
  have hf3 : cl + 3 ≤ room_R.cells ∧ sl + 18 ≤ room_R.slots := ⟨by show _ ≤ 8000; omega, by show _ ≤ 60000; omega⟩
  have hf4 : cl + 4 ≤ room_R.cells ∧ sl + 24 ≤ room_R.slots := ⟨by show _ ≤ 8000; omega, by show _ ≤ 60000; omega⟩
  have hf5 : cl + 5 ≤ room_R.cells ∧ sl + 30 ≤ room_R.slots := ⟨by show _ ≤ 8000; omega, by show _ ≤ 60000; omega⟩
  have hf6 : cl + 6 ≤ room_R.cells ∧ sl + 36 ≤ room_R.slots := ⟨by show _ ≤ 8000; omega, by show _ ≤ 60000; omega⟩
  have hbA : ¬ zAq s b := Nat.not_le.mpr hbl
  refine z_iload (zC_pad Nc C) dL_law_497 14 rfl ?_
  refine z_iconst (v := 4) (zC_pad Nc C) dL_law_499 (by decide) ?_
  refine z_icmp_ne (tgt := 506) (zC_pad Nc C) dL_law_500 (by decide) (fun c198 => ?_) (fun c198 => ?_)
  · have hF := zelse hF c198
    refine z_aload_n (zC_pad Nc C) dL_law_506 rfl 2 rfl ?_
    refine z_iconst (v := 2) (zC_pad Nc C) dL_law_507 (by decide) ?_
    refine z_dup2 (zC_pad Nc C) dL_law_508 rfl rfl ?_
    obtain ⟨g199, hF⟩ := zix_some hF
    refine z_iald (v := ((Wc 0) (2 : Int32).toNatClampNeg)) (zC_pad Nc C) g199 30 rfl rfl rfl dL_law_509 ?_
    refine z_iload (zC_pad Nc C) dL_law_510 14 rfl ?_
    refine z_aload_n (zC_pad Nc C) dL_law_512 rfl 2 rfl ?_
    refine z_iconst (v := 2) (zC_pad Nc C) dL_law_513 (by decide) ?_
    obtain ⟨g200, hF⟩ := zix_some hF
    refine z_iald (v := ((Wc 0) (2 : Int32).toNatClampNeg)) (zC_pad Nc C) g200 30 rfl rfl rfl dL_law_514 ?_
    refine z_icmp_ne (tgt := 522) (zC_pad Nc C) dL_law_515 (by decide) (fun c201 => ?_) (fun c201 => ?_)
    · have hF := zelse hF c201
      refine z_iconst (v := 0) (zC_pad Nc C) dL_law_522 (by decide) ?_
      exact c_L_law_j523 l hl D cI cJ cZ ab a5 a3 a6 a1 a0 aw u C XE XN hX hbl cl sl (by omega) (by omega) k100 hk100 Bc Pc Mc Tc Kc Uc Lc Wc Oc Nc v10 v11 v12 v17 v18 2 ((Wc 0) (2 : Int32).toNatClampNeg) 0 hF
    · have hF := zif hF c201
      refine z_iconst (v := 1) (zC_pad Nc C) dL_law_518 (by decide) ?_
      refine z_goto (tgt := 523) (zC_pad Nc C) dL_law_519 (by decide) ?_
      exact c_L_law_j523 l hl D cI cJ cZ ab a5 a3 a6 a1 a0 aw u C XE XN hX hbl cl sl (by omega) (by omega) k100 hk100 Bc Pc Mc Tc Kc Uc Lc Wc Oc Nc v10 v11 v12 v17 v18 2 ((Wc 0) (2 : Int32).toNatClampNeg) 1 hF
  · have hF := zif hF c198
    refine z_goto (tgt := 1947) (zC_pad Nc C) dL_law_503 (by decide) ?_
    refine z_iinc (v := (v10 + 1)) (lv' := [(10, .int (v10 + 1)), (0, .ref b), (1, .ref ab), (2, .ref (aw 0)), (3, .ref (aw 1)), (4, .ref (aw 2)), (5, .ref (aw 3)), (6, .ref (aw 4)), (7, .ref (aw 5)), (8, .ref (aw 6)), (9, .ref (aw 7)), (11, .int v11), (12, .int v12), (17, .int v17), (18, .int v18)]) (zC_pad Nc C) dL_law_1947 10 rfl rfl (by decide) rfl ?_
    refine z_goto (tgt := 100) (zC_pad Nc C) dL_law_1950 (by decide) ?_
    refine z_iwiden (k := cl + 6) (n := sl + 36) (by omega) (by omega) ?_
    exact z_sub (zC_pad Nc C) [1, 2, 3, 4, 5, 6, 7, 8, 9, 10, 0] rfl (hk100 Bc Pc Mc Tc Kc Uc Lc Wc Oc Nc (v10 + 1) hF)
