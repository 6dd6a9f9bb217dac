set_option maxHeartbeats 4000000 in
set_option maxRecDepth 100000 in
theorem c_law_15 (l : Launch) (hl : l.stackTraces = false) (D : va_G) (cI cJ cZ : ClassId) (ab ao : Nat) (a5 a3 a6 a1 a0 a8 : Nat → Nat) {p : Program} {e : Env} {s : State} {m : MethodId} {args : Array Value} {below : List Frame} {meth : Method} {c : Code} {A : Nat → Prop} {rt : Option FieldType} {Q : State → Prop} (C : zC p s m args meth c cL_law 8 rt RL wsL_law D (zTy cI cJ cZ) A s.heap) (XE : zE A s s.heap) (XN : zN s) {b sL : Nat} {xs : Nat → Int32} (hX : va_X b sL xs s s.heap) (hbl : b < s.heap.size) (hbA : ¬ A b)
    (cl sl : Nat) (hc1 : cl + 1 ≤ 1096) (hs1 : sl + 6 ≤ 26258) (i : Int32) (k : SS → SS → SS → SS → SS → SS → SL → SL → SS → SL → Option Int32) (hk : ∀ (B : SS) (P : SS) (M : SS) (T : SS) (K : SS) (U : SS) (L : SL) (O : SL) (S : SS) (V : SL), k B P M T K U L O S V = some 1 → zW p l e room_1 s m args below meth c 8 D A s.heap (cl + 1) (sl + 6) Q (zwX7 cI cJ cZ ab a5 a3 a6 a1 a0 B P M T K U L ++ (zwO cJ ao O ++ zwX8 cI cJ cZ a8 S V)) [(0, .ref b), (1, .ref ab), (2, .ref (a8 0)), (3, .ref ao), (4, .int i)] 1886 []) (B : SS) (P : SS) (M : SS) (T : SS) (K : SS) (U : SS) (L : SL) (O : SL) (S : SS) (V : SL)
    (hF : f_law_15 xs sL i k B P M T K U L O S V = some 1) : zW p l e room_1 s m args below meth c 8 D A s.heap cl sl Q (zwX7 cI cJ cZ ab a5 a3 a6 a1 a0 B P M T K U L ++ (zwO cJ ao O ++ zwX8 cI cJ cZ a8 S V)) [(0, .ref b), (1, .ref ab), (2, .ref (a8 0)), (3, .ref ao), (4, .int i)] 1120 [] := by
  have hc0 : cl ≤ 1096 := Nat.le_of_succ_le hc1
  have hs0 : sl ≤ 26258 := Nat.le_trans (Nat.le_add_right _ _) hs1
  refine z_aload_n C dL_law_1120 rfl 1 rfl ?_
  refine z_aload_n C dL_law_1121 rfl 0 rfl ?_
  refine z_iload C dL_law_1122 4 rfl ?_
  refine z_iconst (v := 1) C dL_law_1124 (by decide) ?_
  refine z_iadd C dL_law_1125 ?_
  obtain ⟨g1, hF⟩ := zix_some hF
  refine z_sld C hX hbl hbA g1 dL_law_1126 ?_
  refine z_aload_n C dL_law_1127 rfl 0 rfl ?_
  refine z_iload C dL_law_1128 4 rfl ?_
  refine z_iconst (v := 2) C dL_law_1130 (by decide) ?_
  refine z_iadd C dL_law_1131 ?_
  obtain ⟨g2, hF⟩ := zix_some hF
  refine z_sld C hX hbl hbA g2 dL_law_1132 ?_
  refine z_aload_n C dL_law_1133 rfl 3 rfl ?_
  obtain ⟨r3, er3, hF⟩ := zbd hF
  refine z_lcallS (n := 4) (As := [.ref ab, .int (xs (i + 1).toNatClampNeg), .int (xs (i + 2).toNatClampNeg), .ref ao]) (ws' := (zwX7 cI cJ cZ ab a5 a3 a6 a1 a0 B P M r3.2.1 r3.2.2.1 r3.2.2.2.1 r3.2.2.2.2.1 ++ (zwO cJ ao r3.2.2.2.2.2 ++ zwX8 cI cJ cZ a8 S V))) C XE XN (c_L_request l hl D cI cJ cZ ab a5 a3 a6 a1 a0 ao B P M T K U L O (xs (i + 1).toNatClampNeg) (xs (i + 2).toNatClampNeg) r3 er3) gL_law_L_request rfl (by decide +kernel) ⟨Nat.le_of_ble_eq_true rfl, Nat.le_of_ble_eq_true rfl⟩ ⟨hc1, hs1⟩ [] (zwX8 cI cJ cZ a8 S V) zAs1 zAs2 rfl rfl (Nat.le_of_ble_eq_true rfl) dL_law_1134 ?_
  refine z_istore (lv' := [(5, .int r3.1), (0, .ref b), (1, .ref ab), (2, .ref (a8 0)), (3, .ref ao), (4, .int i)]) C dL_law_1137 (by decide) rfl ?_
  refine z_aload_n C dL_law_1139 rfl 3 rfl ?_
  refine z_aload_n C dL_law_1140 rfl 1 rfl ?_
  refine z_iload C dL_law_1141 5 rfl ?_
  refine z_iconst (v := 1) C dL_law_1143 (by decide) ?_
  refine z_iadd C dL_law_1144 ?_
  obtain ⟨g4, hF⟩ := zix_some hF
  refine z_sld C hX hbl hbA g4 dL_law_1145 ?_
  refine z_aload_n C dL_law_1146 rfl 1 rfl ?_
  refine z_iload C dL_law_1147 5 rfl ?_
  refine z_iconst (v := 2) C dL_law_1149 (by decide) ?_
  refine z_iadd C dL_law_1150 ?_
  obtain ⟨g5, hF⟩ := zix_some hF
  refine z_sld C hX hbl hbA g5 dL_law_1151 ?_
  obtain ⟨r6, er6, hF⟩ := zbd hF
  refine z_callV (n := 2) (As := [.int (xs (i + 1).toNatClampNeg), .int (xs (i + 2).toNatClampNeg)]) (ws' := (zwX7 cI cJ cZ ab a5 a3 a6 a1 a0 B P M r3.2.1 r3.2.2.1 r3.2.2.2.1 r3.2.2.2.2.1 ++ (zwO cJ ao r3.2.2.2.2.2 ++ zwX8 cI cJ cZ a8 r6.2.1 r6.2.2))) C (c_X8_request l D cI cJ cZ a8 S V (xs (i + 1).toNatClampNeg) (xs (i + 2).toNatClampNeg) r6 er6) gL_law_X8_request rfl rfl rfl (by decide +kernel) ⟨Nat.le_of_ble_eq_true rfl, Nat.le_of_ble_eq_true rfl⟩ ⟨hc1, hs1⟩ 31 rfl rfl ((zwX7 cI cJ cZ ab a5 a3 a6 a1 a0 B P M r3.2.1 r3.2.2.1 r3.2.2.2.1 r3.2.2.2.2.1) ++ (zwO cJ ao r3.2.2.2.2.2)) [] zAs3 zAs4 rfl rfl (Nat.le_of_ble_eq_true rfl) dL_law_1152 ?_
  refine z_istore (lv' := [(6, .int r6.1), (5, .int r3.1), (0, .ref b), (1, .ref ab), (2, .ref (a8 0)), (3, .ref ao), (4, .int i)]) C dL_law_1155 (by decide) rfl ?_
  refine z_aload_n C dL_law_1157 rfl 4 rfl ?_
  obtain ⟨r7, er7, hF⟩ := zbd hF
  refine z_callV (n := 0) (As := []) (ws' := (zwX7 cI cJ cZ ab a5 a3 a6 a1 a0 B P M r3.2.1 r3.2.2.1 r3.2.2.2.1 r3.2.2.2.2.1 ++ (zwO cJ ao r3.2.2.2.2.2 ++ zwX8 cI cJ cZ a8 r6.2.1 r6.2.2))) C (c_X8_thrown l D cI cJ cZ a8 r6.2.1 r6.2.2 r7 er7) gL_law_X8_thrown rfl rfl rfl (by decide +kernel) ⟨Nat.le_of_ble_eq_true rfl, Nat.le_of_ble_eq_true rfl⟩ ⟨hc1, hs1⟩ 31 rfl rfl ((zwX7 cI cJ cZ ab a5 a3 a6 a1 a0 B P M r3.2.1 r3.2.2.1 r3.2.2.2.1 r3.2.2.2.2.1) ++ (zwO cJ ao r3.2.2.2.2.2)) [] zAs3 zAs4 rfl rfl (Nat.le_of_ble_eq_true rfl) dL_law_1158 ?_
  refine z_iload C dL_law_1161 1 rfl ?_
  refine z_icmp_eq (tgt := 1168) C dL_law_1163 (by decide) (fun c8 => ?_) (fun c8 => ?_)
  · have hF := zif hF c8
    refine z_iload C dL_law_1168 1 rfl ?_
    refine z_if_ne (tgt := 1185) C dL_law_1170 (by decide) (fun c9 => ?_) (fun c9 => ?_)
    · have hF := zelse hF c9
      refine z_goto (tgt := 1886) C dL_law_1185 (by decide) ?_
      exact z_sub C [2, 3, 4, 5, 6] rfl (hk B P M r3.2.1 r3.2.2.1 r3.2.2.2.1 r3.2.2.2.2.1 r3.2.2.2.2.2 r6.2.1 r6.2.2 hF)
    · have hF := zif hF c9
      refine z_aload_n C dL_law_1173 rfl 5 rfl ?_
      refine z_iconst (v := 0) C dL_law_1174 (by decide) ?_
      obtain ⟨g10, hF⟩ := zix_some hF
      refine z_lald (v := (r3.2.2.2.2.2 (0 : Int32).toNatClampNeg)) C g10 30 rfl rfl rfl dL_law_1175 ?_
      refine z_iload C dL_law_1176 0 rfl ?_
      refine z_i2l C dL_law_1178 ?_
      refine z_lcmp C dL_law_1179 ?_
      refine z_if_eq (tgt := 1185) C dL_law_1180 (by decide) (fun c11 => ?_) (fun c11 => ?_)
      · have hF := zif hF c11
        refine z_goto (tgt := 1886) C dL_law_1185 (by decide) ?_
        exact z_sub C [2, 3, 4, 5, 6] rfl (hk B P M r3.2.1 r3.2.2.1 r3.2.2.2.1 r3.2.2.2.2.1 r3.2.2.2.2.2 r6.2.1 r6.2.2 hF)
      · have hF := zelse hF c11
        refine z_iconst (v := 0) C dL_law_1183 (by decide) ?_
        exact absurd (Option.some.inj hF) (by decide)
  · have hF := zelse hF c8
    refine z_iconst (v := 0) C dL_law_1166 (by decide) ?_
    exact absurd (Option.some.inj hF) (by decide)
set_option maxHeartbeats 4000000 in
set_option maxRecDepth 100000 in
theorem c_law_16 (l : Launch) (hl : l.stackTraces = false) (D : va_G) (cI cJ cZ : ClassId) (ab ao : Nat) (a5 a3 a6 a1 a0 a8 : Nat → Nat) {p : Program} {e : Env} {s : State} {m : MethodId} {args : Array Value} {below : List Frame} {meth : Method} {c : Code} {A : Nat → Prop} {rt : Option FieldType} {Q : State → Prop} (C : zC p s m args meth c cL_law 8 rt RL wsL_law D (zTy cI cJ cZ) A s.heap) (XE : zE A s s.heap) (XN : zN s) {b sL : Nat} {xs : Nat → Int32} (hX : va_X b sL xs s s.heap) (hbl : b < s.heap.size) (hbA : ¬ A b)
    (cl sl : Nat) (hc1 : cl + 1 ≤ 1096) (hs1 : sl + 6 ≤ 26258) (i : Int32) (k : SS → SS → SS → SS → SS → SS → SL → SL → SS → SL → Option Int32) (hk : ∀ (B : SS) (P : SS) (M : SS) (T : SS) (K : SS) (U : SS) (L : SL) (O : SL) (S : SS) (V : SL), k B P M T K U L O S V = some 1 → zW p l e room_1 s m args below meth c 8 D A s.heap (cl + 1) (sl + 6) Q (zwX7 cI cJ cZ ab a5 a3 a6 a1 a0 B P M T K U L ++ (zwO cJ ao O ++ zwX8 cI cJ cZ a8 S V)) [(0, .ref b), (1, .ref ab), (2, .ref (a8 0)), (3, .ref ao), (4, .int i)] 1886 []) (B : SS) (P : SS) (M : SS) (T : SS) (K : SS) (U : SS) (L : SL) (O : SL) (S : SS) (V : SL)
    (hF : f_law_16 xs sL i k B P M T K U L O S V = some 1) : zW p l e room_1 s m args below meth c 8 D A s.heap cl sl Q (zwX7 cI cJ cZ ab a5 a3 a6 a1 a0 B P M T K U L ++ (zwO cJ ao O ++ zwX8 cI cJ cZ a8 S V)) [(0, .ref b), (1, .ref ab), (2, .ref (a8 0)), (3, .ref ao), (4, .int i)] 1188 [] := by
  have hc0 : cl ≤ 1096 := Nat.le_of_succ_le hc1
  have hs0 : sl ≤ 26258 := Nat.le_trans (Nat.le_add_right _ _) hs1
  refine z_aload_n C dL_law_1188 rfl 1 rfl ?_
  refine z_aload_n C dL_law_1189 rfl 0 rfl ?_
  refine z_iload C dL_law_1190 4 rfl ?_
  refine z_iconst (v := 1) C dL_law_1192 (by decide) ?_
  refine z_iadd C dL_law_1193 ?_
  obtain ⟨g1, hF⟩ := zix_some hF
  refine z_sld C hX hbl hbA g1 dL_law_1194 ?_
  refine z_aload_n C dL_law_1195 rfl 0 rfl ?_
  refine z_iload C dL_law_1196 4 rfl ?_
  refine z_iconst (v := 2) C dL_law_1198 (by decide) ?_
  refine z_iadd C dL_law_1199 ?_
  obtain ⟨g2, hF⟩ := zix_some hF
  refine z_sld C hX hbl hbA g2 dL_law_1200 ?_
  refine z_aload_n C dL_law_1201 rfl 3 rfl ?_
  obtain ⟨r3, er3, hF⟩ := zbd hF
  refine z_lcallS (n := 4) (As := [.ref ab, .int (xs (i + 1).toNatClampNeg), .int (xs (i + 2).toNatClampNeg), .ref ao]) (ws' := (zwX7 cI cJ cZ ab a5 a3 a6 a1 a0 B P M T K U L ++ (zwO cJ ao r3.2 ++ zwX8 cI cJ cZ a8 S V))) C XE XN (c_L_whyDenied l hl D cI cJ cZ ab a5 a3 a6 a1 a0 ao B P M T K U L O (xs (i + 1).toNatClampNeg) (xs (i + 2).toNatClampNeg) r3 er3) gL_law_L_whyDenied rfl (by decide +kernel) ⟨Nat.le_of_ble_eq_true rfl, Nat.le_of_ble_eq_true rfl⟩ ⟨hc1, hs1⟩ [] (zwX8 cI cJ cZ a8 S V) zAs1 zAs2 rfl rfl (Nat.le_of_ble_eq_true rfl) dL_law_1202 ?_
  refine z_istore (lv' := [(5, .int r3.1), (0, .ref b), (1, .ref ab), (2, .ref (a8 0)), (3, .ref ao), (4, .int i)]) C dL_law_1205 (by decide) rfl ?_
  refine z_aload_n C dL_law_1207 rfl 3 rfl ?_
  refine z_aload_n C dL_law_1208 rfl 1 rfl ?_
  refine z_iload C dL_law_1209 5 rfl ?_
  refine z_iconst (v := 1) C dL_law_1211 (by decide) ?_
  refine z_iadd C dL_law_1212 ?_
  obtain ⟨g4, hF⟩ := zix_some hF
  refine z_sld C hX hbl hbA g4 dL_law_1213 ?_
  refine z_aload_n C dL_law_1214 rfl 1 rfl ?_
  refine z_iload C dL_law_1215 5 rfl ?_
  refine z_iconst (v := 2) C dL_law_1217 (by decide) ?_
  refine z_iadd C dL_law_1218 ?_
  obtain ⟨g5, hF⟩ := zix_some hF
  refine z_sld C hX hbl hbA g5 dL_law_1219 ?_
  obtain ⟨r6, er6, hF⟩ := zbd hF
  refine z_callV (n := 2) (As := [.int (xs (i + 1).toNatClampNeg), .int (xs (i + 2).toNatClampNeg)]) (ws' := (zwX7 cI cJ cZ ab a5 a3 a6 a1 a0 B P M T K U L ++ (zwO cJ ao r3.2 ++ zwX8 cI cJ cZ a8 r6.2 V))) C (c_X8_whyDenied l D cI cJ cZ a8 S V (xs (i + 1).toNatClampNeg) (xs (i + 2).toNatClampNeg) r6 er6) gL_law_X8_whyDenied rfl rfl rfl (by decide +kernel) ⟨Nat.le_of_ble_eq_true rfl, Nat.le_of_ble_eq_true rfl⟩ ⟨hc1, hs1⟩ 31 rfl rfl ((zwX7 cI cJ cZ ab a5 a3 a6 a1 a0 B P M T K U L) ++ (zwO cJ ao r3.2)) [] zAs3 zAs4 rfl rfl (Nat.le_of_ble_eq_true rfl) dL_law_1220 ?_
  refine z_istore (lv' := [(6, .int r6.1), (5, .int r3.1), (0, .ref b), (1, .ref ab), (2, .ref (a8 0)), (3, .ref ao), (4, .int i)]) C dL_law_1223 (by decide) rfl ?_
  refine z_aload_n C dL_law_1225 rfl 4 rfl ?_
  obtain ⟨r7, er7, hF⟩ := zbd hF
  refine z_callV (n := 0) (As := []) (ws' := (zwX7 cI cJ cZ ab a5 a3 a6 a1 a0 B P M T K U L ++ (zwO cJ ao r3.2 ++ zwX8 cI cJ cZ a8 r6.2 V))) C (c_X8_thrown l D cI cJ cZ a8 r6.2 V r7 er7) gL_law_X8_thrown rfl rfl rfl (by decide +kernel) ⟨Nat.le_of_ble_eq_true rfl, Nat.le_of_ble_eq_true rfl⟩ ⟨hc1, hs1⟩ 31 rfl rfl ((zwX7 cI cJ cZ ab a5 a3 a6 a1 a0 B P M T K U L) ++ (zwO cJ ao r3.2)) [] zAs3 zAs4 rfl rfl (Nat.le_of_ble_eq_true rfl) dL_law_1226 ?_
  refine z_iload C dL_law_1229 1 rfl ?_
  refine z_icmp_eq (tgt := 1236) C dL_law_1231 (by decide) (fun c8 => ?_) (fun c8 => ?_)
  · have hF := zif hF c8
    refine z_iload C dL_law_1236 1 rfl ?_
    refine z_if_ne (tgt := 1253) C dL_law_1238 (by decide) (fun c9 => ?_) (fun c9 => ?_)
    · have hF := zelse hF c9
      refine z_goto (tgt := 1886) C dL_law_1253 (by decide) ?_
      exact z_sub C [2, 3, 4, 5, 6] rfl (hk B P M T K U L r3.2 r6.2 V hF)
    · have hF := zif hF c9
      refine z_aload_n C dL_law_1241 rfl 5 rfl ?_
      refine z_iconst (v := 0) C dL_law_1242 (by decide) ?_
      obtain ⟨g10, hF⟩ := zix_some hF
      refine z_lald (v := (r3.2 (0 : Int32).toNatClampNeg)) C g10 30 rfl rfl rfl dL_law_1243 ?_
      refine z_iload C dL_law_1244 0 rfl ?_
      refine z_i2l C dL_law_1246 ?_
      refine z_lcmp C dL_law_1247 ?_
      refine z_if_eq (tgt := 1253) C dL_law_1248 (by decide) (fun c11 => ?_) (fun c11 => ?_)
      · have hF := zif hF c11
        refine z_goto (tgt := 1886) C dL_law_1253 (by decide) ?_
        exact z_sub C [2, 3, 4, 5, 6] rfl (hk B P M T K U L r3.2 r6.2 V hF)
      · have hF := zelse hF c11
        refine z_iconst (v := 0) C dL_law_1251 (by decide) ?_
        exact absurd (Option.some.inj hF) (by decide)
  · have hF := zelse hF c8
    refine z_iconst (v := 0) C dL_law_1234 (by decide) ?_
    exact absurd (Option.some.inj hF) (by decide)
set_option maxHeartbeats 4000000 in
set_option maxRecDepth 100000 in
theorem c_law_17 (l : Launch) (hl : l.stackTraces = false) (D : va_G) (cI cJ cZ : ClassId) (ab ao : Nat) (a5 a3 a6 a1 a0 a8 : Nat → Nat) {p : Program} {e : Env} {s : State} {m : MethodId} {args : Array Value} {below : List Frame} {meth : Method} {c : Code} {A : Nat → Prop} {rt : Option FieldType} {Q : State → Prop} (C : zC p s m args meth c cL_law 8 rt RL wsL_law D (zTy cI cJ cZ) A s.heap) (XE : zE A s s.heap) (XN : zN s) {b sL : Nat} {xs : Nat → Int32} (hX : va_X b sL xs s s.heap) (hbl : b < s.heap.size) (hbA : ¬ A b)
    (cl sl : Nat) (hc1 : cl + 1 ≤ 1096) (hs1 : sl + 6 ≤ 26258) (i : Int32) (k : SS → SS → SS → SS → SS → SS → SL → SL → SS → SL → Option Int32) (hk : ∀ (B : SS) (P : SS) (M : SS) (T : SS) (K : SS) (U : SS) (L : SL) (O : SL) (S : SS) (V : SL), k B P M T K U L O S V = some 1 → zW p l e room_1 s m args below meth c 8 D A s.heap (cl + 1) (sl + 6) Q (zwX7 cI cJ cZ ab a5 a3 a6 a1 a0 B P M T K U L ++ (zwO cJ ao O ++ zwX8 cI cJ cZ a8 S V)) [(0, .ref b), (1, .ref ab), (2, .ref (a8 0)), (3, .ref ao), (4, .int i)] 1886 []) (B : SS) (P : SS) (M : SS) (T : SS) (K : SS) (U : SS) (L : SL) (O : SL) (S : SS) (V : SL)
    (hF : f_law_17 xs sL i k B P M T K U L O S V = some 1) : zW p l e room_1 s m args below meth c 8 D A s.heap cl sl Q (zwX7 cI cJ cZ ab a5 a3 a6 a1 a0 B P M T K U L ++ (zwO cJ ao O ++ zwX8 cI cJ cZ a8 S V)) [(0, .ref b), (1, .ref ab), (2, .ref (a8 0)), (3, .ref ao), (4, .int i)] 1256 [] := by
  have hc0 : cl ≤ 1096 := Nat.le_of_succ_le hc1
  have hs0 : sl ≤ 26258 := Nat.le_trans (Nat.le_add_right _ _) hs1
  refine z_aload_n C dL_law_1256 rfl 1 rfl ?_
  refine z_aload_n C dL_law_1257 rfl 0 rfl ?_
  refine z_iload C dL_law_1258 4 rfl ?_
  refine z_iconst (v := 1) C dL_law_1260 (by decide) ?_
  refine z_iadd C dL_law_1261 ?_
  obtain ⟨g1, hF⟩ := zix_some hF
  refine z_sld C hX hbl hbA g1 dL_law_1262 ?_
  refine z_aload_n C dL_law_1263 rfl 0 rfl ?_
  refine z_iload C dL_law_1264 4 rfl ?_
  refine z_iconst (v := 2) C dL_law_1266 (by decide) ?_
  refine z_iadd C dL_law_1267 ?_
  obtain ⟨g2, hF⟩ := zix_some hF
  refine z_sld C hX hbl hbA g2 dL_law_1268 ?_
  refine z_aload_n C dL_law_1269 rfl 3 rfl ?_
  obtain ⟨r3, er3, hF⟩ := zbd hF
  refine z_lcallS (n := 4) (As := [.ref ab, .int (xs (i + 1).toNatClampNeg), .int (xs (i + 2).toNatClampNeg), .ref ao]) (ws' := (zwX7 cI cJ cZ ab a5 a3 a6 a1 a0 B P M T r3.2.1 r3.2.2.1 r3.2.2.2.1 ++ (zwO cJ ao r3.2.2.2.2 ++ zwX8 cI cJ cZ a8 S V))) C XE XN (c_L_renewCredential l hl D cI cJ cZ ab a5 a3 a6 a1 a0 ao B P M T K U L O (xs (i + 1).toNatClampNeg) (xs (i + 2).toNatClampNeg) r3 er3) gL_law_L_renewCredential rfl (by decide +kernel) ⟨Nat.le_of_ble_eq_true rfl, Nat.le_of_ble_eq_true rfl⟩ ⟨hc1, hs1⟩ [] (zwX8 cI cJ cZ a8 S V) zAs1 zAs2 rfl rfl (Nat.le_of_ble_eq_true rfl) dL_law_1270 ?_
  refine z_istore (lv' := [(5, .int r3.1), (0, .ref b), (1, .ref ab), (2, .ref (a8 0)), (3, .ref ao), (4, .int i)]) C dL_law_1273 (by decide) rfl ?_
  refine z_aload_n C dL_law_1275 rfl 3 rfl ?_
  refine z_aload_n C dL_law_1276 rfl 1 rfl ?_
  refine z_iload C dL_law_1277 5 rfl ?_
  refine z_iconst (v := 1) C dL_law_1279 (by decide) ?_
  refine z_iadd C dL_law_1280 ?_
  obtain ⟨g4, hF⟩ := zix_some hF
  refine z_sld C hX hbl hbA g4 dL_law_1281 ?_
  refine z_aload_n C dL_law_1282 rfl 1 rfl ?_
  refine z_iload C dL_law_1283 5 rfl ?_
  refine z_iconst (v := 2) C dL_law_1285 (by decide) ?_
  refine z_iadd C dL_law_1286 ?_
  obtain ⟨g5, hF⟩ := zix_some hF
  refine z_sld C hX hbl hbA g5 dL_law_1287 ?_
  obtain ⟨r6, er6, hF⟩ := zbd hF
  refine z_callV (n := 2) (As := [.int (xs (i + 1).toNatClampNeg), .int (xs (i + 2).toNatClampNeg)]) (ws' := (zwX7 cI cJ cZ ab a5 a3 a6 a1 a0 B P M T r3.2.1 r3.2.2.1 r3.2.2.2.1 ++ (zwO cJ ao r3.2.2.2.2 ++ zwX8 cI cJ cZ a8 r6.2.1 r6.2.2))) C (c_X8_renewCredential l D cI cJ cZ a8 S V (xs (i + 1).toNatClampNeg) (xs (i + 2).toNatClampNeg) r6 er6) gL_law_X8_renewCredential rfl rfl rfl (by decide +kernel) ⟨Nat.le_of_ble_eq_true rfl, Nat.le_of_ble_eq_true rfl⟩ ⟨hc1, hs1⟩ 31 rfl rfl ((zwX7 cI cJ cZ ab a5 a3 a6 a1 a0 B P M T r3.2.1 r3.2.2.1 r3.2.2.2.1) ++ (zwO cJ ao r3.2.2.2.2)) [] zAs3 zAs4 rfl rfl (Nat.le_of_ble_eq_true rfl) dL_law_1288 ?_
  refine z_istore (lv' := [(6, .int r6.1), (5, .int r3.1), (0, .ref b), (1, .ref ab), (2, .ref (a8 0)), (3, .ref ao), (4, .int i)]) C dL_law_1291 (by decide) rfl ?_
  refine z_aload_n C dL_law_1293 rfl 4 rfl ?_
  obtain ⟨r7, er7, hF⟩ := zbd hF
  refine z_callV (n := 0) (As := []) (ws' := (zwX7 cI cJ cZ ab a5 a3 a6 a1 a0 B P M T r3.2.1 r3.2.2.1 r3.2.2.2.1 ++ (zwO cJ ao r3.2.2.2.2 ++ zwX8 cI cJ cZ a8 r6.2.1 r6.2.2))) C (c_X8_thrown l D cI cJ cZ a8 r6.2.1 r6.2.2 r7 er7) gL_law_X8_thrown rfl rfl rfl (by decide +kernel) ⟨Nat.le_of_ble_eq_true rfl, Nat.le_of_ble_eq_true rfl⟩ ⟨hc1, hs1⟩ 31 rfl rfl ((zwX7 cI cJ cZ ab a5 a3 a6 a1 a0 B P M T r3.2.1 r3.2.2.1 r3.2.2.2.1) ++ (zwO cJ ao r3.2.2.2.2)) [] zAs3 zAs4 rfl rfl (Nat.le_of_ble_eq_true rfl) dL_law_1294 ?_
  refine z_iload C dL_law_1297 1 rfl ?_
  refine z_icmp_eq (tgt := 1304) C dL_law_1299 (by decide) (fun c8 => ?_) (fun c8 => ?_)
  · have hF := zif hF c8
    refine z_iload C dL_law_1304 1 rfl ?_
    refine z_if_ne (tgt := 1321) C dL_law_1306 (by decide) (fun c9 => ?_) (fun c9 => ?_)
    · have hF := zelse hF c9
      refine z_goto (tgt := 1886) C dL_law_1321 (by decide) ?_
      exact z_sub C [2, 3, 4, 5, 6] rfl (hk B P M T r3.2.1 r3.2.2.1 r3.2.2.2.1 r3.2.2.2.2 r6.2.1 r6.2.2 hF)
    · have hF := zif hF c9
      refine z_aload_n C dL_law_1309 rfl 5 rfl ?_
      refine z_iconst (v := 0) C dL_law_1310 (by decide) ?_
      obtain ⟨g10, hF⟩ := zix_some hF
      refine z_lald (v := (r3.2.2.2.2 (0 : Int32).toNatClampNeg)) C g10 30 rfl rfl rfl dL_law_1311 ?_
      refine z_iload C dL_law_1312 0 rfl ?_
      refine z_i2l C dL_law_1314 ?_
      refine z_lcmp C dL_law_1315 ?_
      refine z_if_eq (tgt := 1321) C dL_law_1316 (by decide) (fun c11 => ?_) (fun c11 => ?_)
      · have hF := zif hF c11
        refine z_goto (tgt := 1886) C dL_law_1321 (by decide) ?_
        exact z_sub C [2, 3, 4, 5, 6] rfl (hk B P M T r3.2.1 r3.2.2.1 r3.2.2.2.1 r3.2.2.2.2 r6.2.1 r6.2.2 hF)
      · have hF := zelse hF c11
        refine z_iconst (v := 0) C dL_law_1319 (by decide) ?_
        exact absurd (Option.some.inj hF) (by decide)
  · have hF := zelse hF c8
    refine z_iconst (v := 0) C dL_law_1302 (by decide) ?_
    exact absurd (Option.some.inj hF) (by decide)
set_option maxHeartbeats 4000000 in
set_option maxRecDepth 100000 in
theorem c_law_18 (l : Launch) (hl : l.stackTraces = false) (D : va_G) (cI cJ cZ : ClassId) (ab ao : Nat) (a5 a3 a6 a1 a0 a8 : Nat → Nat) {p : Program} {e : Env} {s : State} {m : MethodId} {args : Array Value} {below : List Frame} {meth : Method} {c : Code} {A : Nat → Prop} {rt : Option FieldType} {Q : State → Prop} (C : zC p s m args meth c cL_law 8 rt RL wsL_law D (zTy cI cJ cZ) A s.heap) (XE : zE A s s.heap) (XN : zN s) {b sL : Nat} {xs : Nat → Int32} (hX : va_X b sL xs s s.heap) (hbl : b < s.heap.size) (hbA : ¬ A b)
    (cl sl : Nat) (hc1 : cl + 1 ≤ 1096) (hs1 : sl + 6 ≤ 26258) (i : Int32) (k : SS → SS → SS → SS → SS → SS → SL → SL → SS → SL → Option Int32) (hk : ∀ (B : SS) (P : SS) (M : SS) (T : SS) (K : SS) (U : SS) (L : SL) (O : SL) (S : SS) (V : SL), k B P M T K U L O S V = some 1 → zW p l e room_1 s m args below meth c 8 D A s.heap (cl + 1) (sl + 6) Q (zwX7 cI cJ cZ ab a5 a3 a6 a1 a0 B P M T K U L ++ (zwO cJ ao O ++ zwX8 cI cJ cZ a8 S V)) [(0, .ref b), (1, .ref ab), (2, .ref (a8 0)), (3, .ref ao), (4, .int i)] 1886 []) (B : SS) (P : SS) (M : SS) (T : SS) (K : SS) (U : SS) (L : SL) (O : SL) (S : SS) (V : SL)
    (hF : f_law_18 xs sL i k B P M T K U L O S V = some 1) : zW p l e room_1 s m args below meth c 8 D A s.heap cl sl Q (zwX7 cI cJ cZ ab a5 a3 a6 a1 a0 B P M T K U L ++ (zwO cJ ao O ++ zwX8 cI cJ cZ a8 S V)) [(0, .ref b), (1, .ref ab), (2, .ref (a8 0)), (3, .ref ao), (4, .int i)] 1324 [] := by
  have hc0 : cl ≤ 1096 := Nat.le_of_succ_le hc1
  have hs0 : sl ≤ 26258 := Nat.le_trans (Nat.le_add_right _ _) hs1
  refine z_aload_n C dL_law_1324 rfl 1 rfl ?_
  refine z_aload_n C dL_law_1325 rfl 0 rfl ?_
  refine z_iload C dL_law_1326 4 rfl ?_
  refine z_iconst (v := 1) C dL_law_1328 (by decide) ?_
  refine z_iadd C dL_law_1329 ?_
  obtain ⟨g1, hF⟩ := zix_some hF
  refine z_sld C hX hbl hbA g1 dL_law_1330 ?_
  refine z_aload_n C dL_law_1331 rfl 3 rfl ?_
  obtain ⟨r2, er2, hF⟩ := zbd hF
  refine z_lcallS (n := 3) (As := [.ref ab, .int (xs (i + 1).toNatClampNeg), .ref ao]) (ws' := (zwX7 cI cJ cZ ab a5 a3 a6 a1 a0 B P M T r2.2.1 r2.2.2.1 r2.2.2.2.1 ++ (zwO cJ ao r2.2.2.2.2 ++ zwX8 cI cJ cZ a8 S V))) C XE XN (c_L_revokeBelow l hl D cI cJ cZ ab a5 a3 a6 a1 a0 ao B P M T K U L O (xs (i + 1).toNatClampNeg) r2 er2) gL_law_L_revokeBelow rfl (by decide +kernel) ⟨Nat.le_of_ble_eq_true rfl, Nat.le_of_ble_eq_true rfl⟩ ⟨hc1, hs1⟩ [] (zwX8 cI cJ cZ a8 S V) zAs1 zAs2 rfl rfl (Nat.le_of_ble_eq_true rfl) dL_law_1332 ?_
  refine z_istore (lv' := [(5, .int r2.1), (0, .ref b), (1, .ref ab), (2, .ref (a8 0)), (3, .ref ao), (4, .int i)]) C dL_law_1335 (by decide) rfl ?_
  refine z_aload_n C dL_law_1337 rfl 3 rfl ?_
  refine z_aload_n C dL_law_1338 rfl 1 rfl ?_
  refine z_iload C dL_law_1339 5 rfl ?_
  refine z_iconst (v := 1) C dL_law_1341 (by decide) ?_
  refine z_iadd C dL_law_1342 ?_
  obtain ⟨g3, hF⟩ := zix_some hF
  refine z_sld C hX hbl hbA g3 dL_law_1343 ?_
  obtain ⟨r4, er4, hF⟩ := zbd hF
  refine z_callV (n := 1) (As := [.int (xs (i + 1).toNatClampNeg)]) (ws' := (zwX7 cI cJ cZ ab a5 a3 a6 a1 a0 B P M T r2.2.1 r2.2.2.1 r2.2.2.2.1 ++ (zwO cJ ao r2.2.2.2.2 ++ zwX8 cI cJ cZ a8 r4.2.1 r4.2.2))) C (c_X8_revokeBelow l D cI cJ cZ a8 S V (xs (i + 1).toNatClampNeg) r4 er4) gL_law_X8_revokeBelow rfl rfl rfl (by decide +kernel) ⟨Nat.le_of_ble_eq_true rfl, Nat.le_of_ble_eq_true rfl⟩ ⟨hc1, hs1⟩ 31 rfl rfl ((zwX7 cI cJ cZ ab a5 a3 a6 a1 a0 B P M T r2.2.1 r2.2.2.1 r2.2.2.2.1) ++ (zwO cJ ao r2.2.2.2.2)) [] zAs3 zAs4 rfl rfl (Nat.le_of_ble_eq_true rfl) dL_law_1344 ?_
  refine z_istore (lv' := [(6, .int r4.1), (5, .int r2.1), (0, .ref b), (1, .ref ab), (2, .ref (a8 0)), (3, .ref ao), (4, .int i)]) C dL_law_1347 (by decide) rfl ?_
  refine z_aload_n C dL_law_1349 rfl 4 rfl ?_
  obtain ⟨r5, er5, hF⟩ := zbd hF
  refine z_callV (n := 0) (As := []) (ws' := (zwX7 cI cJ cZ ab a5 a3 a6 a1 a0 B P M T r2.2.1 r2.2.2.1 r2.2.2.2.1 ++ (zwO cJ ao r2.2.2.2.2 ++ zwX8 cI cJ cZ a8 r4.2.1 r4.2.2))) C (c_X8_thrown l D cI cJ cZ a8 r4.2.1 r4.2.2 r5 er5) gL_law_X8_thrown rfl rfl rfl (by decide +kernel) ⟨Nat.le_of_ble_eq_true rfl, Nat.le_of_ble_eq_true rfl⟩ ⟨hc1, hs1⟩ 31 rfl rfl ((zwX7 cI cJ cZ ab a5 a3 a6 a1 a0 B P M T r2.2.1 r2.2.2.1 r2.2.2.2.1) ++ (zwO cJ ao r2.2.2.2.2)) [] zAs3 zAs4 rfl rfl (Nat.le_of_ble_eq_true rfl) dL_law_1350 ?_
  refine z_iload C dL_law_1353 1 rfl ?_
  refine z_icmp_eq (tgt := 1360) C dL_law_1355 (by decide) (fun c6 => ?_) (fun c6 => ?_)
  · have hF := zif hF c6
    refine z_iload C dL_law_1360 1 rfl ?_
    refine z_if_ne (tgt := 1377) C dL_law_1362 (by decide) (fun c7 => ?_) (fun c7 => ?_)
    · have hF := zelse hF c7
      refine z_goto (tgt := 1886) C dL_law_1377 (by decide) ?_
      exact z_sub C [2, 3, 4, 5, 6] rfl (hk B P M T r2.2.1 r2.2.2.1 r2.2.2.2.1 r2.2.2.2.2 r4.2.1 r4.2.2 hF)
    · have hF := zif hF c7
      refine z_aload_n C dL_law_1365 rfl 5 rfl ?_
      refine z_iconst (v := 0) C dL_law_1366 (by decide) ?_
      obtain ⟨g8, hF⟩ := zix_some hF
      refine z_lald (v := (r2.2.2.2.2 (0 : Int32).toNatClampNeg)) C g8 30 rfl rfl rfl dL_law_1367 ?_
      refine z_iload C dL_law_1368 0 rfl ?_
      refine z_i2l C dL_law_1370 ?_
      refine z_lcmp C dL_law_1371 ?_
      refine z_if_eq (tgt := 1377) C dL_law_1372 (by decide) (fun c9 => ?_) (fun c9 => ?_)
      · have hF := zif hF c9
        refine z_goto (tgt := 1886) C dL_law_1377 (by decide) ?_
        exact z_sub C [2, 3, 4, 5, 6] rfl (hk B P M T r2.2.1 r2.2.2.1 r2.2.2.2.1 r2.2.2.2.2 r4.2.1 r4.2.2 hF)
      · have hF := zelse hF c9
        refine z_iconst (v := 0) C dL_law_1375 (by decide) ?_
        exact absurd (Option.some.inj hF) (by decide)
  · have hF := zelse hF c6
    refine z_iconst (v := 0) C dL_law_1358 (by decide) ?_
    exact absurd (Option.some.inj hF) (by decide)
set_option maxHeartbeats 4000000 in
set_option maxRecDepth 100000 in
theorem c_law_19 (l : Launch) (hl : l.stackTraces = false) (D : va_G) (cI cJ cZ : ClassId) (ab ao : Nat) (a5 a3 a6 a1 a0 a8 : Nat → Nat) {p : Program} {e : Env} {s : State} {m : MethodId} {args : Array Value} {below : List Frame} {meth : Method} {c : Code} {A : Nat → Prop} {rt : Option FieldType} {Q : State → Prop} (C : zC p s m args meth c cL_law 8 rt RL wsL_law D (zTy cI cJ cZ) A s.heap) (XE : zE A s s.heap) (XN : zN s) {b sL : Nat} {xs : Nat → Int32} (hX : va_X b sL xs s s.heap) (hbl : b < s.heap.size) (hbA : ¬ A b)
    (cl sl : Nat) (hc1 : cl + 1 ≤ 1096) (hs1 : sl + 6 ≤ 26258) (i : Int32) (k : SS → SS → SS → SS → SS → SS → SL → SL → SS → SL → Option Int32) (hk : ∀ (B : SS) (P : SS) (M : SS) (T : SS) (K : SS) (U : SS) (L : SL) (O : SL) (S : SS) (V : SL), k B P M T K U L O S V = some 1 → zW p l e room_1 s m args below meth c 8 D A s.heap (cl + 1) (sl + 6) Q (zwX7 cI cJ cZ ab a5 a3 a6 a1 a0 B P M T K U L ++ (zwO cJ ao O ++ zwX8 cI cJ cZ a8 S V)) [(0, .ref b), (1, .ref ab), (2, .ref (a8 0)), (3, .ref ao), (4, .int i)] 1886 []) (B : SS) (P : SS) (M : SS) (T : SS) (K : SS) (U : SS) (L : SL) (O : SL) (S : SS) (V : SL)
    (hF : f_law_19 xs sL i k B P M T K U L O S V = some 1) : zW p l e room_1 s m args below meth c 8 D A s.heap cl sl Q (zwX7 cI cJ cZ ab a5 a3 a6 a1 a0 B P M T K U L ++ (zwO cJ ao O ++ zwX8 cI cJ cZ a8 S V)) [(0, .ref b), (1, .ref ab), (2, .ref (a8 0)), (3, .ref ao), (4, .int i)] 1380 [] := by
  have hc0 : cl ≤ 1096 := Nat.le_of_succ_le hc1
  have hs0 : sl ≤ 26258 := Nat.le_trans (Nat.le_add_right _ _) hs1
  refine z_aload_n C dL_law_1380 rfl 1 rfl ?_
  refine z_aload_n C dL_law_1381 rfl 0 rfl ?_
  refine z_iload C dL_law_1382 4 rfl ?_
  refine z_iconst (v := 1) C dL_law_1384 (by decide) ?_
  refine z_iadd C dL_law_1385 ?_
  obtain ⟨g1, hF⟩ := zix_some hF
  refine z_sld C hX hbl hbA g1 dL_law_1386 ?_
  refine z_aload_n C dL_law_1387 rfl 3 rfl ?_
  obtain ⟨r2, er2, hF⟩ := zbd hF
  refine z_lcallS (n := 3) (As := [.ref ab, .int (xs (i + 1).toNatClampNeg), .ref ao]) (ws' := (zwX7 cI cJ cZ ab a5 a3 a6 a1 a0 B P M T K U L ++ (zwO cJ ao r2.2 ++ zwX8 cI cJ cZ a8 S V))) C XE XN (c_L_works l hl D cI cJ cZ ab a5 a3 a6 a1 a0 ao B P M T K U L O (xs (i + 1).toNatClampNeg) r2 er2) gL_law_L_works rfl (by decide +kernel) ⟨Nat.le_of_ble_eq_true rfl, Nat.le_of_ble_eq_true rfl⟩ ⟨hc1, hs1⟩ [] (zwX8 cI cJ cZ a8 S V) zAs1 zAs2 rfl rfl (Nat.le_of_ble_eq_true rfl) dL_law_1388 ?_
  refine z_istore (lv' := [(5, .int r2.1), (0, .ref b), (1, .ref ab), (2, .ref (a8 0)), (3, .ref ao), (4, .int i)]) C dL_law_1391 (by decide) rfl ?_
  refine z_aload_n C dL_law_1393 rfl 3 rfl ?_
  refine z_aload_n C dL_law_1394 rfl 1 rfl ?_
  refine z_iload C dL_law_1395 5 rfl ?_
  refine z_iconst (v := 1) C dL_law_1397 (by decide) ?_
  refine z_iadd C dL_law_1398 ?_
  obtain ⟨g3, hF⟩ := zix_some hF
  refine z_sld C hX hbl hbA g3 dL_law_1399 ?_
  obtain ⟨r4, er4, hF⟩ := zbd hF
  refine z_callV (n := 1) (As := [.int (xs (i + 1).toNatClampNeg)]) (ws' := (zwX7 cI cJ cZ ab a5 a3 a6 a1 a0 B P M T K U L ++ (zwO cJ ao r2.2 ++ zwX8 cI cJ cZ a8 r4.2 V))) C (c_X8_works l D cI cJ cZ a8 S V (xs (i + 1).toNatClampNeg) r4 er4) gL_law_X8_works rfl rfl rfl (by decide +kernel) ⟨Nat.le_of_ble_eq_true rfl, Nat.le_of_ble_eq_true rfl⟩ ⟨hc1, hs1⟩ 31 rfl rfl ((zwX7 cI cJ cZ ab a5 a3 a6 a1 a0 B P M T K U L) ++ (zwO cJ ao r2.2)) [] zAs3 zAs4 rfl rfl (Nat.le_of_ble_eq_true rfl) dL_law_1400 ?_
  refine z_istore (lv' := [(6, .int r4.1), (5, .int r2.1), (0, .ref b), (1, .ref ab), (2, .ref (a8 0)), (3, .ref ao), (4, .int i)]) C dL_law_1403 (by decide) rfl ?_
  refine z_aload_n C dL_law_1405 rfl 4 rfl ?_
  obtain ⟨r5, er5, hF⟩ := zbd hF
  refine z_callV (n := 0) (As := []) (ws' := (zwX7 cI cJ cZ ab a5 a3 a6 a1 a0 B P M T K U L ++ (zwO cJ ao r2.2 ++ zwX8 cI cJ cZ a8 r4.2 V))) C (c_X8_thrown l D cI cJ cZ a8 r4.2 V r5 er5) gL_law_X8_thrown rfl rfl rfl (by decide +kernel) ⟨Nat.le_of_ble_eq_true rfl, Nat.le_of_ble_eq_true rfl⟩ ⟨hc1, hs1⟩ 31 rfl rfl ((zwX7 cI cJ cZ ab a5 a3 a6 a1 a0 B P M T K U L) ++ (zwO cJ ao r2.2)) [] zAs3 zAs4 rfl rfl (Nat.le_of_ble_eq_true rfl) dL_law_1406 ?_
  refine z_iload C dL_law_1409 1 rfl ?_
  refine z_icmp_eq (tgt := 1416) C dL_law_1411 (by decide) (fun c6 => ?_) (fun c6 => ?_)
  · have hF := zif hF c6
    refine z_iload C dL_law_1416 1 rfl ?_
    refine z_if_ne (tgt := 1440) C dL_law_1418 (by decide) (fun c7 => ?_) (fun c7 => ?_)
    · have hF := zelse hF c7
      refine z_goto (tgt := 1886) C dL_law_1440 (by decide) ?_
      exact z_sub C [2, 3, 4, 5, 6] rfl (hk B P M T K U L r2.2 r4.2 V hF)
    · have hF := zif hF c7
      refine z_aload_n C dL_law_1421 rfl 5 rfl ?_
      refine z_iconst (v := 0) C dL_law_1422 (by decide) ?_
      obtain ⟨g8, hF⟩ := zix_some hF
      refine z_lald (v := (r2.2 (0 : Int32).toNatClampNeg)) C g8 30 rfl rfl rfl dL_law_1423 ?_
      refine z_iload C dL_law_1424 0 rfl ?_
      refine z_if_eq (tgt := 1433) C dL_law_1426 (by decide) (fun c9 => ?_) (fun c9 => ?_)
      · have hF := zif hF c9
        refine z_lconst (v := 0) C dL_law_1433 (by decide) ?_
        refine z_lcmp C dL_law_1434 ?_
        refine z_if_eq (tgt := 1440) C dL_law_1435 (by decide) (fun c10 => ?_) (fun c10 => ?_)
        · have hF := zif hF c10
          refine z_goto (tgt := 1886) C dL_law_1440 (by decide) ?_
          exact z_sub C [2, 3, 4, 5, 6] rfl (hk B P M T K U L r2.2 r4.2 V hF)
        · have hF := zelse hF c10
          refine z_iconst (v := 0) C dL_law_1438 (by decide) ?_
          exact absurd (Option.some.inj hF) (by decide)
      · have hF := zelse hF c9
        refine z_lconst (v := 1) C dL_law_1429 (by decide) ?_
        refine z_goto (tgt := 1434) C dL_law_1430 (by decide) ?_
        refine z_lcmp C dL_law_1434 ?_
        refine z_if_eq (tgt := 1440) C dL_law_1435 (by decide) (fun c11 => ?_) (fun c11 => ?_)
        · have hF := zif hF c11
          refine z_goto (tgt := 1886) C dL_law_1440 (by decide) ?_
          exact z_sub C [2, 3, 4, 5, 6] rfl (hk B P M T K U L r2.2 r4.2 V hF)
        · have hF := zelse hF c11
          refine z_iconst (v := 0) C dL_law_1438 (by decide) ?_
          exact absurd (Option.some.inj hF) (by decide)
  · have hF := zelse hF c6
    refine z_iconst (v := 0) C dL_law_1414 (by decide) ?_
    exact absurd (Option.some.inj hF) (by decide)
set_option maxHeartbeats 4000000 in
set_option maxRecDepth 100000 in
theorem c_law_20 (l : Launch) (hl : l.stackTraces = false) (D : va_G) (cI cJ cZ : ClassId) (ab ao : Nat) (a5 a3 a6 a1 a0 a8 : Nat → Nat) {p : Program} {e : Env} {s : State} {m : MethodId} {args : Array Value} {below : List Frame} {meth : Method} {c : Code} {A : Nat → Prop} {rt : Option FieldType} {Q : State → Prop} (C : zC p s m args meth c cL_law 8 rt RL wsL_law D (zTy cI cJ cZ) A s.heap) (XE : zE A s s.heap) (XN : zN s) {b sL : Nat} {xs : Nat → Int32} (hX : va_X b sL xs s s.heap) (hbl : b < s.heap.size) (hbA : ¬ A b)
    (cl sl : Nat) (hc1 : cl + 1 ≤ 1096) (hs1 : sl + 6 ≤ 26258) (i : Int32) (k : SS → SS → SS → SS → SS → SS → SL → SL → SS → SL → Option Int32) (hk : ∀ (B : SS) (P : SS) (M : SS) (T : SS) (K : SS) (U : SS) (L : SL) (O : SL) (S : SS) (V : SL), k B P M T K U L O S V = some 1 → zW p l e room_1 s m args below meth c 8 D A s.heap (cl + 1) (sl + 6) Q (zwX7 cI cJ cZ ab a5 a3 a6 a1 a0 B P M T K U L ++ (zwO cJ ao O ++ zwX8 cI cJ cZ a8 S V)) [(0, .ref b), (1, .ref ab), (2, .ref (a8 0)), (3, .ref ao), (4, .int i)] 1886 []) (B : SS) (P : SS) (M : SS) (T : SS) (K : SS) (U : SS) (L : SL) (O : SL) (S : SS) (V : SL)
    (hF : f_law_20 xs sL i k B P M T K U L O S V = some 1) : zW p l e room_1 s m args below meth c 8 D A s.heap cl sl Q (zwX7 cI cJ cZ ab a5 a3 a6 a1 a0 B P M T K U L ++ (zwO cJ ao O ++ zwX8 cI cJ cZ a8 S V)) [(0, .ref b), (1, .ref ab), (2, .ref (a8 0)), (3, .ref ao), (4, .int i)] 1443 [] := by
  have hc0 : cl ≤ 1096 := Nat.le_of_succ_le hc1
  have hs0 : sl ≤ 26258 := Nat.le_trans (Nat.le_add_right _ _) hs1
  refine z_aload_n C dL_law_1443 rfl 1 rfl ?_
  refine z_aload_n C dL_law_1444 rfl 0 rfl ?_
  refine z_iload C dL_law_1445 4 rfl ?_
  refine z_iconst (v := 1) C dL_law_1447 (by decide) ?_
  refine z_iadd C dL_law_1448 ?_
  obtain ⟨g1, hF⟩ := zix_some hF
  refine z_sld C hX hbl hbA g1 dL_law_1449 ?_
  refine z_aload_n C dL_law_1450 rfl 3 rfl ?_
  obtain ⟨r2, er2, hF⟩ := zbd hF
  refine z_lcallS (n := 3) (As := [.ref ab, .int (xs (i + 1).toNatClampNeg), .ref ao]) (ws' := (zwX7 cI cJ cZ ab a5 a3 a6 a1 a0 B P M T K U L ++ (zwO cJ ao r2.2 ++ zwX8 cI cJ cZ a8 S V))) C XE XN (c_L_endOfCredential l hl D cI cJ cZ ab a5 a3 a6 a1 a0 ao B P M T K U L O (xs (i + 1).toNatClampNeg) r2 er2) gL_law_L_endOfCredential rfl (by decide +kernel) ⟨Nat.le_of_ble_eq_true rfl, Nat.le_of_ble_eq_true rfl⟩ ⟨hc1, hs1⟩ [] (zwX8 cI cJ cZ a8 S V) zAs1 zAs2 rfl rfl (Nat.le_of_ble_eq_true rfl) dL_law_1451 ?_
  refine z_istore (lv' := [(5, .int r2.1), (0, .ref b), (1, .ref ab), (2, .ref (a8 0)), (3, .ref ao), (4, .int i)]) C dL_law_1454 (by decide) rfl ?_
  refine z_aload_n C dL_law_1456 rfl 3 rfl ?_
  refine z_aload_n C dL_law_1457 rfl 1 rfl ?_
  refine z_iload C dL_law_1458 5 rfl ?_
  refine z_iconst (v := 1) C dL_law_1460 (by decide) ?_
  refine z_iadd C dL_law_1461 ?_
  obtain ⟨g3, hF⟩ := zix_some hF
  refine z_sld C hX hbl hbA g3 dL_law_1462 ?_
  obtain ⟨r4, er4, hF⟩ := zbd hF
  refine z_callV (n := 1) (As := [.int (xs (i + 1).toNatClampNeg)]) (ws' := (zwX7 cI cJ cZ ab a5 a3 a6 a1 a0 B P M T K U L ++ (zwO cJ ao r2.2 ++ zwX8 cI cJ cZ a8 r4.2 V))) C (c_X8_endOfCredential l D cI cJ cZ a8 S V (xs (i + 1).toNatClampNeg) r4 er4) gL_law_X8_endOfCredential rfl rfl rfl (by decide +kernel) ⟨Nat.le_of_ble_eq_true rfl, Nat.le_of_ble_eq_true rfl⟩ ⟨hc1, hs1⟩ 31 rfl rfl ((zwX7 cI cJ cZ ab a5 a3 a6 a1 a0 B P M T K U L) ++ (zwO cJ ao r2.2)) [] zAs3 zAs4 rfl rfl (Nat.le_of_ble_eq_true rfl) dL_law_1463 ?_
  refine z_istore (lv' := [(6, .int r4.1), (5, .int r2.1), (0, .ref b), (1, .ref ab), (2, .ref (a8 0)), (3, .ref ao), (4, .int i)]) C dL_law_1466 (by decide) rfl ?_
  refine z_aload_n C dL_law_1468 rfl 4 rfl ?_
  obtain ⟨r5, er5, hF⟩ := zbd hF
  refine z_callV (n := 0) (As := []) (ws' := (zwX7 cI cJ cZ ab a5 a3 a6 a1 a0 B P M T K U L ++ (zwO cJ ao r2.2 ++ zwX8 cI cJ cZ a8 r4.2 V))) C (c_X8_thrown l D cI cJ cZ a8 r4.2 V r5 er5) gL_law_X8_thrown rfl rfl rfl (by decide +kernel) ⟨Nat.le_of_ble_eq_true rfl, Nat.le_of_ble_eq_true rfl⟩ ⟨hc1, hs1⟩ 31 rfl rfl ((zwX7 cI cJ cZ ab a5 a3 a6 a1 a0 B P M T K U L) ++ (zwO cJ ao r2.2)) [] zAs3 zAs4 rfl rfl (Nat.le_of_ble_eq_true rfl) dL_law_1469 ?_
  refine z_iload C dL_law_1472 1 rfl ?_
  refine z_icmp_eq (tgt := 1479) C dL_law_1474 (by decide) (fun c6 => ?_) (fun c6 => ?_)
  · have hF := zif hF c6
    refine z_iload C dL_law_1479 1 rfl ?_
    refine z_if_ne (tgt := 1496) C dL_law_1481 (by decide) (fun c7 => ?_) (fun c7 => ?_)
    · have hF := zelse hF c7
      refine z_goto (tgt := 1886) C dL_law_1496 (by decide) ?_
      exact z_sub C [2, 3, 4, 5, 6] rfl (hk B P M T K U L r2.2 r4.2 V hF)
    · have hF := zif hF c7
      refine z_aload_n C dL_law_1484 rfl 5 rfl ?_
      refine z_iconst (v := 0) C dL_law_1485 (by decide) ?_
      obtain ⟨g8, hF⟩ := zix_some hF
      refine z_lald (v := (r2.2 (0 : Int32).toNatClampNeg)) C g8 30 rfl rfl rfl dL_law_1486 ?_
      refine z_iload C dL_law_1487 0 rfl ?_
      refine z_i2l C dL_law_1489 ?_
      refine z_lcmp C dL_law_1490 ?_
      refine z_if_eq (tgt := 1496) C dL_law_1491 (by decide) (fun c9 => ?_) (fun c9 => ?_)
      · have hF := zif hF c9
        refine z_goto (tgt := 1886) C dL_law_1496 (by decide) ?_
        exact z_sub C [2, 3, 4, 5, 6] rfl (hk B P M T K U L r2.2 r4.2 V hF)
      · have hF := zelse hF c9
        refine z_iconst (v := 0) C dL_law_1494 (by decide) ?_
        exact absurd (Option.some.inj hF) (by decide)
  · have hF := zelse hF c6
    refine z_iconst (v := 0) C dL_law_1477 (by decide) ?_
    exact absurd (Option.some.inj hF) (by decide)
set_option maxHeartbeats 4000000 in
set_option maxRecDepth 100000 in
theorem c_law_21 (l : Launch) (hl : l.stackTraces = false) (D : va_G) (cI cJ cZ : ClassId) (ab ao : Nat) (a5 a3 a6 a1 a0 a8 : Nat → Nat) {p : Program} {e : Env} {s : State} {m : MethodId} {args : Array Value} {below : List Frame} {meth : Method} {c : Code} {A : Nat → Prop} {rt : Option FieldType} {Q : State → Prop} (C : zC p s m args meth c cL_law 8 rt RL wsL_law D (zTy cI cJ cZ) A s.heap) (XE : zE A s s.heap) (XN : zN s) {b sL : Nat} {xs : Nat → Int32} (hX : va_X b sL xs s s.heap) (hbl : b < s.heap.size) (hbA : ¬ A b)
    (cl sl : Nat) (hc1 : cl + 1 ≤ 1096) (hs1 : sl + 6 ≤ 26258) (i : Int32) (k : SS → SS → SS → SS → SS → SS → SL → SL → SS → SL → Option Int32) (hk : ∀ (B : SS) (P : SS) (M : SS) (T : SS) (K : SS) (U : SS) (L : SL) (O : SL) (S : SS) (V : SL), k B P M T K U L O S V = some 1 → zW p l e room_1 s m args below meth c 8 D A s.heap (cl + 1) (sl + 6) Q (zwX7 cI cJ cZ ab a5 a3 a6 a1 a0 B P M T K U L ++ (zwO cJ ao O ++ zwX8 cI cJ cZ a8 S V)) [(0, .ref b), (1, .ref ab), (2, .ref (a8 0)), (3, .ref ao), (4, .int i)] 1886 []) (B : SS) (P : SS) (M : SS) (T : SS) (K : SS) (U : SS) (L : SL) (O : SL) (S : SS) (V : SL)
    (hF : f_law_21 xs sL i k B P M T K U L O S V = some 1) : zW p l e room_1 s m args below meth c 8 D A s.heap cl sl Q (zwX7 cI cJ cZ ab a5 a3 a6 a1 a0 B P M T K U L ++ (zwO cJ ao O ++ zwX8 cI cJ cZ a8 S V)) [(0, .ref b), (1, .ref ab), (2, .ref (a8 0)), (3, .ref ao), (4, .int i)] 1499 [] := by
  have hc0 : cl ≤ 1096 := Nat.le_of_succ_le hc1
  have hs0 : sl ≤ 26258 := Nat.le_trans (Nat.le_add_right _ _) hs1
  refine z_aload_n C dL_law_1499 rfl 1 rfl ?_
  obtain ⟨r1, er1, hF⟩ := zbd hF
  refine z_callV (n := 0) (As := []) (ws' := (zwX7 cI cJ cZ ab a5 a3 a6 a1 a0 B P M T K U L ++ (zwO cJ ao O ++ zwX8 cI cJ cZ a8 S V))) C (c_X7_credentials l D cI cJ cZ ab a5 a3 a6 a1 a0 B P M T K U L r1 er1) gL_law_X7_credentials rfl rfl rfl (by decide +kernel) ⟨Nat.le_of_ble_eq_true rfl, Nat.le_of_ble_eq_true rfl⟩ ⟨hc0, hs0⟩ 0 rfl rfl [] ((zwO cJ ao O) ++ (zwX8 cI cJ cZ a8 S V)) rfl rfl rfl rfl (Nat.le_of_ble_eq_true rfl) dL_law_1500 ?_
  refine z_aload_n C dL_law_1503 rfl 2 rfl ?_
  obtain ⟨r2, er2, hF⟩ := zbd hF
  refine z_callV (n := 0) (As := []) (ws' := (zwX7 cI cJ cZ ab a5 a3 a6 a1 a0 B P M T K U L ++ (zwO cJ ao O ++ zwX8 cI cJ cZ a8 r2.2 V))) C (c_X8_credentials l D cI cJ cZ a8 S V r2 er2) gL_law_X8_credentials rfl rfl rfl (by decide +kernel) ⟨Nat.le_of_ble_eq_true rfl, Nat.le_of_ble_eq_true rfl⟩ ⟨hc0, hs0⟩ 31 rfl rfl ((zwX7 cI cJ cZ ab a5 a3 a6 a1 a0 B P M T K U L) ++ (zwO cJ ao O)) [] zAs3 zAs4 rfl rfl (Nat.le_of_ble_eq_true rfl) dL_law_1504 ?_
  refine z_icmp_eq (tgt := 1886) C dL_law_1507 (by decide) (fun c3 => ?_) (fun c3 => ?_)
  · have hF := zif hF c3
    refine z_iwiden (k := cl + 1) (n := sl + 6) (Nat.le_succ _) (Nat.le_add_right _ _) ?_
    exact z_sub C [0, 1, 2, 3, 4] rfl (hk B P M T K U L O r2.2 V hF)
  · have hF := zelse hF c3
    refine z_iconst (v := 0) C dL_law_1510 (by decide) ?_
    exact absurd (Option.some.inj hF) (by decide)
set_option maxHeartbeats 4000000 in
set_option maxRecDepth 100000 in
theorem c_law_22 (l : Launch) (hl : l.stackTraces = false) (D : va_G) (cI cJ cZ : ClassId) (ab ao : Nat) (a5 a3 a6 a1 a0 a8 : Nat → Nat) {p : Program} {e : Env} {s : State} {m : MethodId} {args : Array Value} {below : List Frame} {meth : Method} {c : Code} {A : Nat → Prop} {rt : Option FieldType} {Q : State → Prop} (C : zC p s m args meth c cL_law 8 rt RL wsL_law D (zTy cI cJ cZ) A s.heap) (XE : zE A s s.heap) (XN : zN s) {b sL : Nat} {xs : Nat → Int32} (hX : va_X b sL xs s s.heap) (hbl : b < s.heap.size) (hbA : ¬ A b)
    (cl sl : Nat) (hc1 : cl + 1 ≤ 1096) (hs1 : sl + 6 ≤ 26258) (i : Int32) (k : SS → SS → SS → SS → SS → SS → SL → SL → SS → SL → Option Int32) (hk : ∀ (B : SS) (P : SS) (M : SS) (T : SS) (K : SS) (U : SS) (L : SL) (O : SL) (S : SS) (V : SL), k B P M T K U L O S V = some 1 → zW p l e room_1 s m args below meth c 8 D A s.heap (cl + 1) (sl + 6) Q (zwX7 cI cJ cZ ab a5 a3 a6 a1 a0 B P M T K U L ++ (zwO cJ ao O ++ zwX8 cI cJ cZ a8 S V)) [(0, .ref b), (1, .ref ab), (2, .ref (a8 0)), (3, .ref ao), (4, .int i)] 1886 []) (B : SS) (P : SS) (M : SS) (T : SS) (K : SS) (U : SS) (L : SL) (O : SL) (S : SS) (V : SL)
    (hF : f_law_22 xs sL i k B P M T K U L O S V = some 1) : zW p l e room_1 s m args below meth c 8 D A s.heap cl sl Q (zwX7 cI cJ cZ ab a5 a3 a6 a1 a0 B P M T K U L ++ (zwO cJ ao O ++ zwX8 cI cJ cZ a8 S V)) [(0, .ref b), (1, .ref ab), (2, .ref (a8 0)), (3, .ref ao), (4, .int i)] 1512 [] := by
  have hc0 : cl ≤ 1096 := Nat.le_of_succ_le hc1
  have hs0 : sl ≤ 26258 := Nat.le_trans (Nat.le_add_right _ _) hs1
  refine z_aload_n C dL_law_1512 rfl 1 rfl ?_
  refine z_aload_n C dL_law_1513 rfl 0 rfl ?_
  refine z_iload C dL_law_1514 4 rfl ?_
  refine z_iconst (v := 1) C dL_law_1516 (by decide) ?_
  refine z_iadd C dL_law_1517 ?_
  obtain ⟨g1, hF⟩ := zix_some hF
  refine z_sld C hX hbl hbA g1 dL_law_1518 ?_
  refine z_aload_n C dL_law_1519 rfl 3 rfl ?_
  obtain ⟨r2, er2, hF⟩ := zbd hF
  refine z_lcallS (n := 3) (As := [.ref ab, .int (xs (i + 1).toNatClampNeg), .ref ao]) (ws' := (zwX7 cI cJ cZ ab a5 a3 a6 a1 a0 B P M T K U L ++ (zwO cJ ao r2.2 ++ zwX8 cI cJ cZ a8 S V))) C XE XN (c_L_credentialsOf l hl D cI cJ cZ ab a5 a3 a6 a1 a0 ao B P M T K U L O (xs (i + 1).toNatClampNeg) r2 er2) gL_law_L_credentialsOf rfl (by decide +kernel) ⟨Nat.le_of_ble_eq_true rfl, Nat.le_of_ble_eq_true rfl⟩ ⟨hc1, hs1⟩ [] (zwX8 cI cJ cZ a8 S V) zAs1 zAs2 rfl rfl (Nat.le_of_ble_eq_true rfl) dL_law_1520 ?_
  refine z_istore (lv' := [(5, .int r2.1), (0, .ref b), (1, .ref ab), (2, .ref (a8 0)), (3, .ref ao), (4, .int i)]) C dL_law_1523 (by decide) rfl ?_
  refine z_aload_n C dL_law_1525 rfl 3 rfl ?_
  refine z_aload_n C dL_law_1526 rfl 1 rfl ?_
  refine z_iload C dL_law_1527 5 rfl ?_
  refine z_iconst (v := 1) C dL_law_1529 (by decide) ?_
  refine z_iadd C dL_law_1530 ?_
  obtain ⟨g3, hF⟩ := zix_some hF
  refine z_sld C hX hbl hbA g3 dL_law_1531 ?_
  obtain ⟨r4, er4, hF⟩ := zbd hF
  refine z_callV (n := 1) (As := [.int (xs (i + 1).toNatClampNeg)]) (ws' := (zwX7 cI cJ cZ ab a5 a3 a6 a1 a0 B P M T K U L ++ (zwO cJ ao r2.2 ++ zwX8 cI cJ cZ a8 r4.2 V))) C (c_X8_credentialsOf l D cI cJ cZ a8 S V (xs (i + 1).toNatClampNeg) r4 er4) gL_law_X8_credentialsOf rfl rfl rfl (by decide +kernel) ⟨Nat.le_of_ble_eq_true rfl, Nat.le_of_ble_eq_true rfl⟩ ⟨hc1, hs1⟩ 31 rfl rfl ((zwX7 cI cJ cZ ab a5 a3 a6 a1 a0 B P M T K U L) ++ (zwO cJ ao r2.2)) [] zAs3 zAs4 rfl rfl (Nat.le_of_ble_eq_true rfl) dL_law_1532 ?_
  refine z_istore (lv' := [(6, .int r4.1), (5, .int r2.1), (0, .ref b), (1, .ref ab), (2, .ref (a8 0)), (3, .ref ao), (4, .int i)]) C dL_law_1535 (by decide) rfl ?_
  refine z_aload_n C dL_law_1537 rfl 4 rfl ?_
  obtain ⟨r5, er5, hF⟩ := zbd hF
  refine z_callV (n := 0) (As := []) (ws' := (zwX7 cI cJ cZ ab a5 a3 a6 a1 a0 B P M T K U L ++ (zwO cJ ao r2.2 ++ zwX8 cI cJ cZ a8 r4.2 V))) C (c_X8_thrown l D cI cJ cZ a8 r4.2 V r5 er5) gL_law_X8_thrown rfl rfl rfl (by decide +kernel) ⟨Nat.le_of_ble_eq_true rfl, Nat.le_of_ble_eq_true rfl⟩ ⟨hc1, hs1⟩ 31 rfl rfl ((zwX7 cI cJ cZ ab a5 a3 a6 a1 a0 B P M T K U L) ++ (zwO cJ ao r2.2)) [] zAs3 zAs4 rfl rfl (Nat.le_of_ble_eq_true rfl) dL_law_1538 ?_
  refine z_iload C dL_law_1541 1 rfl ?_
  refine z_icmp_eq (tgt := 1548) C dL_law_1543 (by decide) (fun c6 => ?_) (fun c6 => ?_)
  · have hF := zif hF c6
    refine z_iload C dL_law_1548 1 rfl ?_
    refine z_if_ne (tgt := 1565) C dL_law_1550 (by decide) (fun c7 => ?_) (fun c7 => ?_)
    · have hF := zelse hF c7
      refine z_goto (tgt := 1886) C dL_law_1565 (by decide) ?_
      exact z_sub C [2, 3, 4, 5, 6] rfl (hk B P M T K U L r2.2 r4.2 V hF)
    · have hF := zif hF c7
      refine z_aload_n C dL_law_1553 rfl 5 rfl ?_
      refine z_iconst (v := 0) C dL_law_1554 (by decide) ?_
      obtain ⟨g8, hF⟩ := zix_some hF
      refine z_lald (v := (r2.2 (0 : Int32).toNatClampNeg)) C g8 30 rfl rfl rfl dL_law_1555 ?_
      refine z_iload C dL_law_1556 0 rfl ?_
      refine z_i2l C dL_law_1558 ?_
      refine z_lcmp C dL_law_1559 ?_
      refine z_if_eq (tgt := 1565) C dL_law_1560 (by decide) (fun c9 => ?_) (fun c9 => ?_)
      · have hF := zif hF c9
        refine z_goto (tgt := 1886) C dL_law_1565 (by decide) ?_
        exact z_sub C [2, 3, 4, 5, 6] rfl (hk B P M T K U L r2.2 r4.2 V hF)
      · have hF := zelse hF c9
        refine z_iconst (v := 0) C dL_law_1563 (by decide) ?_
        exact absurd (Option.some.inj hF) (by decide)
  · have hF := zelse hF c6
    refine z_iconst (v := 0) C dL_law_1546 (by decide) ?_
    exact absurd (Option.some.inj hF) (by decide)
set_option maxHeartbeats 4000000 in
set_option maxRecDepth 100000 in
theorem c_law_23 (l : Launch) (hl : l.stackTraces = false) (D : va_G) (cI cJ cZ : ClassId) (ab ao : Nat) (a5 a3 a6 a1 a0 a8 : Nat → Nat) {p : Program} {e : Env} {s : State} {m : MethodId} {args : Array Value} {below : List Frame} {meth : Method} {c : Code} {A : Nat → Prop} {rt : Option FieldType} {Q : State → Prop} (C : zC p s m args meth c cL_law 8 rt RL wsL_law D (zTy cI cJ cZ) A s.heap) (XE : zE A s s.heap) (XN : zN s) {b sL : Nat} {xs : Nat → Int32} (hX : va_X b sL xs s s.heap) (hbl : b < s.heap.size) (hbA : ¬ A b)
    (cl sl : Nat) (hc1 : cl + 1 ≤ 1096) (hs1 : sl + 6 ≤ 26258) (i : Int32) (k : SS → SS → SS → SS → SS → SS → SL → SL → SS → SL → Option Int32) (hk : ∀ (B : SS) (P : SS) (M : SS) (T : SS) (K : SS) (U : SS) (L : SL) (O : SL) (S : SS) (V : SL), k B P M T K U L O S V = some 1 → zW p l e room_1 s m args below meth c 8 D A s.heap (cl + 1) (sl + 6) Q (zwX7 cI cJ cZ ab a5 a3 a6 a1 a0 B P M T K U L ++ (zwO cJ ao O ++ zwX8 cI cJ cZ a8 S V)) [(0, .ref b), (1, .ref ab), (2, .ref (a8 0)), (3, .ref ao), (4, .int i)] 1886 []) (B : SS) (P : SS) (M : SS) (T : SS) (K : SS) (U : SS) (L : SL) (O : SL) (S : SS) (V : SL)
    (hF : f_law_23 xs sL i k B P M T K U L O S V = some 1) : zW p l e room_1 s m args below meth c 8 D A s.heap cl sl Q (zwX7 cI cJ cZ ab a5 a3 a6 a1 a0 B P M T K U L ++ (zwO cJ ao O ++ zwX8 cI cJ cZ a8 S V)) [(0, .ref b), (1, .ref ab), (2, .ref (a8 0)), (3, .ref ao), (4, .int i)] 1568 [] := by
  have hc0 : cl ≤ 1096 := Nat.le_of_succ_le hc1
  have hs0 : sl ≤ 26258 := Nat.le_trans (Nat.le_add_right _ _) hs1
  refine z_aload_n C dL_law_1568 rfl 1 rfl ?_
  refine z_aload_n C dL_law_1569 rfl 0 rfl ?_
  refine z_iload C dL_law_1570 4 rfl ?_
  refine z_iconst (v := 1) C dL_law_1572 (by decide) ?_
  refine z_iadd C dL_law_1573 ?_
  obtain ⟨g1, hF⟩ := zix_some hF
  refine z_sld C hX hbl hbA g1 dL_law_1574 ?_
  refine z_aload_n C dL_law_1575 rfl 3 rfl ?_
  obtain ⟨r2, er2, hF⟩ := zbd hF
  refine z_lcallS (n := 3) (As := [.ref ab, .int (xs (i + 1).toNatClampNeg), .ref ao]) (ws' := (zwX7 cI cJ cZ ab a5 a3 a6 a1 a0 r2.2.1 P M r2.2.2.1 r2.2.2.2.1 r2.2.2.2.2.1 r2.2.2.2.2.2.1 ++ (zwO cJ ao r2.2.2.2.2.2.2 ++ zwX8 cI cJ cZ a8 S V))) C XE XN (c_L_pass l hl D cI cJ cZ ab a5 a3 a6 a1 a0 ao B P M T K U L O (xs (i + 1).toNatClampNeg) r2 er2) gL_law_L_pass rfl (by decide +kernel) ⟨Nat.le_of_ble_eq_true rfl, Nat.le_of_ble_eq_true rfl⟩ ⟨hc1, hs1⟩ [] (zwX8 cI cJ cZ a8 S V) zAs1 zAs2 rfl rfl (Nat.le_of_ble_eq_true rfl) dL_law_1576 ?_
  refine z_istore (lv' := [(5, .int r2.1), (0, .ref b), (1, .ref ab), (2, .ref (a8 0)), (3, .ref ao), (4, .int i)]) C dL_law_1579 (by decide) rfl ?_
  refine z_aload_n C dL_law_1581 rfl 3 rfl ?_
  refine z_aload_n C dL_law_1582 rfl 1 rfl ?_
  refine z_iload C dL_law_1583 5 rfl ?_
  refine z_iconst (v := 1) C dL_law_1585 (by decide) ?_
  refine z_iadd C dL_law_1586 ?_
  obtain ⟨g3, hF⟩ := zix_some hF
  refine z_sld C hX hbl hbA g3 dL_law_1587 ?_
  obtain ⟨r4, er4, hF⟩ := zbd hF
  refine z_callV (n := 1) (As := [.int (xs (i + 1).toNatClampNeg)]) (ws' := (zwX7 cI cJ cZ ab a5 a3 a6 a1 a0 r2.2.1 P M r2.2.2.1 r2.2.2.2.1 r2.2.2.2.2.1 r2.2.2.2.2.2.1 ++ (zwO cJ ao r2.2.2.2.2.2.2 ++ zwX8 cI cJ cZ a8 r4.2.1 r4.2.2))) C (c_X8_pass l D cI cJ cZ a8 S V (xs (i + 1).toNatClampNeg) r4 er4) gL_law_X8_pass rfl rfl rfl (by decide +kernel) ⟨Nat.le_of_ble_eq_true rfl, Nat.le_of_ble_eq_true rfl⟩ ⟨hc1, hs1⟩ 31 rfl rfl ((zwX7 cI cJ cZ ab a5 a3 a6 a1 a0 r2.2.1 P M r2.2.2.1 r2.2.2.2.1 r2.2.2.2.2.1 r2.2.2.2.2.2.1) ++ (zwO cJ ao r2.2.2.2.2.2.2)) [] zAs3 zAs4 rfl rfl (Nat.le_of_ble_eq_true rfl) dL_law_1588 ?_
  refine z_istore (lv' := [(6, .int r4.1), (5, .int r2.1), (0, .ref b), (1, .ref ab), (2, .ref (a8 0)), (3, .ref ao), (4, .int i)]) C dL_law_1591 (by decide) rfl ?_
  refine z_aload_n C dL_law_1593 rfl 4 rfl ?_
  obtain ⟨r5, er5, hF⟩ := zbd hF
  refine z_callV (n := 0) (As := []) (ws' := (zwX7 cI cJ cZ ab a5 a3 a6 a1 a0 r2.2.1 P M r2.2.2.1 r2.2.2.2.1 r2.2.2.2.2.1 r2.2.2.2.2.2.1 ++ (zwO cJ ao r2.2.2.2.2.2.2 ++ zwX8 cI cJ cZ a8 r4.2.1 r4.2.2))) C (c_X8_thrown l D cI cJ cZ a8 r4.2.1 r4.2.2 r5 er5) gL_law_X8_thrown rfl rfl rfl (by decide +kernel) ⟨Nat.le_of_ble_eq_true rfl, Nat.le_of_ble_eq_true rfl⟩ ⟨hc1, hs1⟩ 31 rfl rfl ((zwX7 cI cJ cZ ab a5 a3 a6 a1 a0 r2.2.1 P M r2.2.2.1 r2.2.2.2.1 r2.2.2.2.2.1 r2.2.2.2.2.2.1) ++ (zwO cJ ao r2.2.2.2.2.2.2)) [] zAs3 zAs4 rfl rfl (Nat.le_of_ble_eq_true rfl) dL_law_1594 ?_
  refine z_iload C dL_law_1597 1 rfl ?_
  refine z_icmp_eq (tgt := 1604) C dL_law_1599 (by decide) (fun c6 => ?_) (fun c6 => ?_)
  · have hF := zif hF c6
    refine z_iload C dL_law_1604 1 rfl ?_
    refine z_if_ne (tgt := 1621) C dL_law_1606 (by decide) (fun c7 => ?_) (fun c7 => ?_)
    · have hF := zelse hF c7
      refine z_goto (tgt := 1886) C dL_law_1621 (by decide) ?_
      exact z_sub C [2, 3, 4, 5, 6] rfl (hk r2.2.1 P M r2.2.2.1 r2.2.2.2.1 r2.2.2.2.2.1 r2.2.2.2.2.2.1 r2.2.2.2.2.2.2 r4.2.1 r4.2.2 hF)
    · have hF := zif hF c7
      refine z_aload_n C dL_law_1609 rfl 5 rfl ?_
      refine z_iconst (v := 0) C dL_law_1610 (by decide) ?_
      obtain ⟨g8, hF⟩ := zix_some hF
      refine z_lald (v := (r2.2.2.2.2.2.2 (0 : Int32).toNatClampNeg)) C g8 30 rfl rfl rfl dL_law_1611 ?_
      refine z_iload C dL_law_1612 0 rfl ?_
      refine z_i2l C dL_law_1614 ?_
      refine z_lcmp C dL_law_1615 ?_
      refine z_if_eq (tgt := 1621) C dL_law_1616 (by decide) (fun c9 => ?_) (fun c9 => ?_)
      · have hF := zif hF c9
        refine z_goto (tgt := 1886) C dL_law_1621 (by decide) ?_
        exact z_sub C [2, 3, 4, 5, 6] rfl (hk r2.2.1 P M r2.2.2.1 r2.2.2.2.1 r2.2.2.2.2.1 r2.2.2.2.2.2.1 r2.2.2.2.2.2.2 r4.2.1 r4.2.2 hF)
      · have hF := zelse hF c9
        refine z_iconst (v := 0) C dL_law_1619 (by decide) ?_
        exact absurd (Option.some.inj hF) (by decide)
  · have hF := zelse hF c6
    refine z_iconst (v := 0) C dL_law_1602 (by decide) ?_
    exact absurd (Option.some.inj hF) (by decide)
set_option maxHeartbeats 4000000 in
set_option maxRecDepth 100000 in
theorem c_law_24 (l : Launch) (hl : l.stackTraces = false) (D : va_G) (cI cJ cZ : ClassId) (ab ao : Nat) (a5 a3 a6 a1 a0 a8 : Nat → Nat) {p : Program} {e : Env} {s : State} {m : MethodId} {args : Array Value} {below : List Frame} {meth : Method} {c : Code} {A : Nat → Prop} {rt : Option FieldType} {Q : State → Prop} (C : zC p s m args meth c cL_law 8 rt RL wsL_law D (zTy cI cJ cZ) A s.heap) (XE : zE A s s.heap) (XN : zN s) {b sL : Nat} {xs : Nat → Int32} (hX : va_X b sL xs s s.heap) (hbl : b < s.heap.size) (hbA : ¬ A b)
    (cl sl : Nat) (hc1 : cl + 1 ≤ 1096) (hs1 : sl + 6 ≤ 26258) (i : Int32) (k : SS → SS → SS → SS → SS → SS → SL → SL → SS → SL → Option Int32) (hk : ∀ (B : SS) (P : SS) (M : SS) (T : SS) (K : SS) (U : SS) (L : SL) (O : SL) (S : SS) (V : SL), k B P M T K U L O S V = some 1 → zW p l e room_1 s m args below meth c 8 D A s.heap (cl + 1) (sl + 6) Q (zwX7 cI cJ cZ ab a5 a3 a6 a1 a0 B P M T K U L ++ (zwO cJ ao O ++ zwX8 cI cJ cZ a8 S V)) [(0, .ref b), (1, .ref ab), (2, .ref (a8 0)), (3, .ref ao), (4, .int i)] 1886 []) (B : SS) (P : SS) (M : SS) (T : SS) (K : SS) (U : SS) (L : SL) (O : SL) (S : SS) (V : SL)
    (hF : f_law_24 xs sL i k B P M T K U L O S V = some 1) : zW p l e room_1 s m args below meth c 8 D A s.heap cl sl Q (zwX7 cI cJ cZ ab a5 a3 a6 a1 a0 B P M T K U L ++ (zwO cJ ao O ++ zwX8 cI cJ cZ a8 S V)) [(0, .ref b), (1, .ref ab), (2, .ref (a8 0)), (3, .ref ao), (4, .int i)] 1624 [] := by
  have hc0 : cl ≤ 1096 := Nat.le_of_succ_le hc1
  have hs0 : sl ≤ 26258 := Nat.le_trans (Nat.le_add_right _ _) hs1
  refine z_aload_n C dL_law_1624 rfl 1 rfl ?_
  obtain ⟨r1, er1, hF⟩ := zbd hF
  refine z_callV (n := 0) (As := []) (ws' := (zwX7 cI cJ cZ ab a5 a3 a6 a1 a0 B P M T K U L ++ (zwO cJ ao O ++ zwX8 cI cJ cZ a8 S V))) C (c_X7_time l D cI cJ cZ ab a5 a3 a6 a1 a0 B P M T K U L r1 er1) gL_law_X7_time rfl rfl rfl (by decide +kernel) ⟨Nat.le_of_ble_eq_true rfl, Nat.le_of_ble_eq_true rfl⟩ ⟨hc0, hs0⟩ 0 rfl rfl [] ((zwO cJ ao O) ++ (zwX8 cI cJ cZ a8 S V)) rfl rfl rfl rfl (Nat.le_of_ble_eq_true rfl) dL_law_1625 ?_
  refine z_aload_n C dL_law_1628 rfl 2 rfl ?_
  obtain ⟨r2, er2, hF⟩ := zbd hF
  refine z_callV (n := 0) (As := []) (ws' := (zwX7 cI cJ cZ ab a5 a3 a6 a1 a0 B P M T K U L ++ (zwO cJ ao O ++ zwX8 cI cJ cZ a8 r2.2 V))) C (c_X8_time l D cI cJ cZ a8 S V r2 er2) gL_law_X8_time rfl rfl rfl (by decide +kernel) ⟨Nat.le_of_ble_eq_true rfl, Nat.le_of_ble_eq_true rfl⟩ ⟨hc0, hs0⟩ 31 rfl rfl ((zwX7 cI cJ cZ ab a5 a3 a6 a1 a0 B P M T K U L) ++ (zwO cJ ao O)) [] zAs3 zAs4 rfl rfl (Nat.le_of_ble_eq_true rfl) dL_law_1629 ?_
  refine z_icmp_eq (tgt := 1886) C dL_law_1632 (by decide) (fun c3 => ?_) (fun c3 => ?_)
  · have hF := zif hF c3
    refine z_iwiden (k := cl + 1) (n := sl + 6) (Nat.le_succ _) (Nat.le_add_right _ _) ?_
    exact z_sub C [0, 1, 2, 3, 4] rfl (hk B P M T K U L O r2.2 V hF)
  · have hF := zelse hF c3
    refine z_iconst (v := 0) C dL_law_1635 (by decide) ?_
    exact absurd (Option.some.inj hF) (by decide)
set_option maxHeartbeats 4000000 in
set_option maxRecDepth 100000 in
theorem c_law_25 (l : Launch) (hl : l.stackTraces = false) (D : va_G) (cI cJ cZ : ClassId) (ab ao : Nat) (a5 a3 a6 a1 a0 a8 : Nat → Nat) {p : Program} {e : Env} {s : State} {m : MethodId} {args : Array Value} {below : List Frame} {meth : Method} {c : Code} {A : Nat → Prop} {rt : Option FieldType} {Q : State → Prop} (C : zC p s m args meth c cL_law 8 rt RL wsL_law D (zTy cI cJ cZ) A s.heap) (XE : zE A s s.heap) (XN : zN s) {b sL : Nat} {xs : Nat → Int32} (hX : va_X b sL xs s s.heap) (hbl : b < s.heap.size) (hbA : ¬ A b)
    (cl sl : Nat) (hc1 : cl + 1 ≤ 1096) (hs1 : sl + 6 ≤ 26258) (i : Int32) (k : SS → SS → SS → SS → SS → SS → SL → SL → SS → SL → Option Int32) (hk : ∀ (B : SS) (P : SS) (M : SS) (T : SS) (K : SS) (U : SS) (L : SL) (O : SL) (S : SS) (V : SL), k B P M T K U L O S V = some 1 → zW p l e room_1 s m args below meth c 8 D A s.heap (cl + 1) (sl + 6) Q (zwX7 cI cJ cZ ab a5 a3 a6 a1 a0 B P M T K U L ++ (zwO cJ ao O ++ zwX8 cI cJ cZ a8 S V)) [(0, .ref b), (1, .ref ab), (2, .ref (a8 0)), (3, .ref ao), (4, .int i)] 1886 []) (B : SS) (P : SS) (M : SS) (T : SS) (K : SS) (U : SS) (L : SL) (O : SL) (S : SS) (V : SL)
    (hF : f_law_25 xs sL i k B P M T K U L O S V = some 1) : zW p l e room_1 s m args below meth c 8 D A s.heap cl sl Q (zwX7 cI cJ cZ ab a5 a3 a6 a1 a0 B P M T K U L ++ (zwO cJ ao O ++ zwX8 cI cJ cZ a8 S V)) [(0, .ref b), (1, .ref ab), (2, .ref (a8 0)), (3, .ref ao), (4, .int i)] 1637 [] := by
  have hc0 : cl ≤ 1096 := Nat.le_of_succ_le hc1
  have hs0 : sl ≤ 26258 := Nat.le_trans (Nat.le_add_right _ _) hs1
  refine z_aload_n C dL_law_1637 rfl 1 rfl ?_
  obtain ⟨r1, er1, hF⟩ := zbd hF
  refine z_callV (n := 0) (As := []) (ws' := (zwX7 cI cJ cZ ab a5 a3 a6 a1 a0 B P M T K U L ++ (zwO cJ ao O ++ zwX8 cI cJ cZ a8 S V))) C (c_X7_nextEnd l D cI cJ cZ ab a5 a3 a6 a1 a0 B P M T K U L r1 er1) gL_law_X7_nextEnd rfl rfl rfl (by decide +kernel) ⟨Nat.le_of_ble_eq_true rfl, Nat.le_of_ble_eq_true rfl⟩ ⟨hc0, hs0⟩ 0 rfl rfl [] ((zwO cJ ao O) ++ (zwX8 cI cJ cZ a8 S V)) rfl rfl rfl rfl (Nat.le_of_ble_eq_true rfl) dL_law_1638 ?_
  refine z_aload_n C dL_law_1641 rfl 2 rfl ?_
  obtain ⟨r2, er2, hF⟩ := zbd hF
  refine z_callV (n := 0) (As := []) (ws' := (zwX7 cI cJ cZ ab a5 a3 a6 a1 a0 B P M T K U L ++ (zwO cJ ao O ++ zwX8 cI cJ cZ a8 r2.2 V))) C (c_X8_nextEnd l D cI cJ cZ a8 S V r2 er2) gL_law_X8_nextEnd rfl rfl rfl (by decide +kernel) ⟨Nat.le_of_ble_eq_true rfl, Nat.le_of_ble_eq_true rfl⟩ ⟨hc0, hs0⟩ 31 rfl rfl ((zwX7 cI cJ cZ ab a5 a3 a6 a1 a0 B P M T K U L) ++ (zwO cJ ao O)) [] zAs3 zAs4 rfl rfl (Nat.le_of_ble_eq_true rfl) dL_law_1642 ?_
  refine z_icmp_eq (tgt := 1886) C dL_law_1645 (by decide) (fun c3 => ?_) (fun c3 => ?_)
  · have hF := zif hF c3
    refine z_iwiden (k := cl + 1) (n := sl + 6) (Nat.le_succ _) (Nat.le_add_right _ _) ?_
    exact z_sub C [0, 1, 2, 3, 4] rfl (hk B P M T K U L O r2.2 V hF)
  · have hF := zelse hF c3
    refine z_iconst (v := 0) C dL_law_1648 (by decide) ?_
    exact absurd (Option.some.inj hF) (by decide)
set_option maxHeartbeats 4000000 in
set_option maxRecDepth 100000 in
theorem c_law_26 (l : Launch) (hl : l.stackTraces = false) (D : va_G) (cI cJ cZ : ClassId) (ab ao : Nat) (a5 a3 a6 a1 a0 a8 : Nat → Nat) {p : Program} {e : Env} {s : State} {m : MethodId} {args : Array Value} {below : List Frame} {meth : Method} {c : Code} {A : Nat → Prop} {rt : Option FieldType} {Q : State → Prop} (C : zC p s m args meth c cL_law 8 rt RL wsL_law D (zTy cI cJ cZ) A s.heap) (XE : zE A s s.heap) (XN : zN s) {b sL : Nat} {xs : Nat → Int32} (hX : va_X b sL xs s s.heap) (hbl : b < s.heap.size) (hbA : ¬ A b)
    (cl sl : Nat) (hc1 : cl + 1 ≤ 1096) (hs1 : sl + 6 ≤ 26258) (i : Int32) (k : SS → SS → SS → SS → SS → SS → SL → SL → SS → SL → Option Int32) (hk : ∀ (B : SS) (P : SS) (M : SS) (T : SS) (K : SS) (U : SS) (L : SL) (O : SL) (S : SS) (V : SL), k B P M T K U L O S V = some 1 → zW p l e room_1 s m args below meth c 8 D A s.heap (cl + 1) (sl + 6) Q (zwX7 cI cJ cZ ab a5 a3 a6 a1 a0 B P M T K U L ++ (zwO cJ ao O ++ zwX8 cI cJ cZ a8 S V)) [(0, .ref b), (1, .ref ab), (2, .ref (a8 0)), (3, .ref ao), (4, .int i)] 1886 []) (B : SS) (P : SS) (M : SS) (T : SS) (K : SS) (U : SS) (L : SL) (O : SL) (S : SS) (V : SL)
    (hF : f_law_26 xs sL i k B P M T K U L O S V = some 1) : zW p l e room_1 s m args below meth c 8 D A s.heap cl sl Q (zwX7 cI cJ cZ ab a5 a3 a6 a1 a0 B P M T K U L ++ (zwO cJ ao O ++ zwX8 cI cJ cZ a8 S V)) [(0, .ref b), (1, .ref ab), (2, .ref (a8 0)), (3, .ref ao), (4, .int i)] 1650 [] := by
  have hc0 : cl ≤ 1096 := Nat.le_of_succ_le hc1
  have hs0 : sl ≤ 26258 := Nat.le_trans (Nat.le_add_right _ _) hs1
  refine z_aload_n C dL_law_1650 rfl 1 rfl ?_
  obtain ⟨r1, er1, hF⟩ := zbd hF
  refine z_callV (n := 0) (As := []) (ws' := (zwX7 cI cJ cZ ab a5 a3 a6 a1 a0 B P M T K U L ++ (zwO cJ ao O ++ zwX8 cI cJ cZ a8 S V))) C (c_X7_entries l D cI cJ cZ ab a5 a3 a6 a1 a0 B P M T K U L r1 er1) gL_law_X7_entries rfl rfl rfl (by decide +kernel) ⟨Nat.le_of_ble_eq_true rfl, Nat.le_of_ble_eq_true rfl⟩ ⟨hc0, hs0⟩ 0 rfl rfl [] ((zwO cJ ao O) ++ (zwX8 cI cJ cZ a8 S V)) rfl rfl rfl rfl (Nat.le_of_ble_eq_true rfl) dL_law_1651 ?_
  refine z_aload_n C dL_law_1654 rfl 2 rfl ?_
  obtain ⟨r2, er2, hF⟩ := zbd hF
  refine z_callV (n := 0) (As := []) (ws' := (zwX7 cI cJ cZ ab a5 a3 a6 a1 a0 B P M T K U L ++ (zwO cJ ao O ++ zwX8 cI cJ cZ a8 r2.2 V))) C (c_X8_entries l D cI cJ cZ a8 S V r2 er2) gL_law_X8_entries rfl rfl rfl (by decide +kernel) ⟨Nat.le_of_ble_eq_true rfl, Nat.le_of_ble_eq_true rfl⟩ ⟨hc0, hs0⟩ 31 rfl rfl ((zwX7 cI cJ cZ ab a5 a3 a6 a1 a0 B P M T K U L) ++ (zwO cJ ao O)) [] zAs3 zAs4 rfl rfl (Nat.le_of_ble_eq_true rfl) dL_law_1655 ?_
  refine z_icmp_eq (tgt := 1886) C dL_law_1658 (by decide) (fun c3 => ?_) (fun c3 => ?_)
  · have hF := zif hF c3
    refine z_iwiden (k := cl + 1) (n := sl + 6) (Nat.le_succ _) (Nat.le_add_right _ _) ?_
    exact z_sub C [0, 1, 2, 3, 4] rfl (hk B P M T K U L O r2.2 V hF)
  · have hF := zelse hF c3
    refine z_iconst (v := 0) C dL_law_1661 (by decide) ?_
    exact absurd (Option.some.inj hF) (by decide)
set_option maxHeartbeats 4000000 in
set_option maxRecDepth 100000 in
theorem c_law_27 (l : Launch) (hl : l.stackTraces = false) (D : va_G) (cI cJ cZ : ClassId) (ab ao : Nat) (a5 a3 a6 a1 a0 a8 : Nat → Nat) {p : Program} {e : Env} {s : State} {m : MethodId} {args : Array Value} {below : List Frame} {meth : Method} {c : Code} {A : Nat → Prop} {rt : Option FieldType} {Q : State → Prop} (C : zC p s m args meth c cL_law 8 rt RL wsL_law D (zTy cI cJ cZ) A s.heap) (XE : zE A s s.heap) (XN : zN s) {b sL : Nat} {xs : Nat → Int32} (hX : va_X b sL xs s s.heap) (hbl : b < s.heap.size) (hbA : ¬ A b)
    (cl sl : Nat) (hc1 : cl + 1 ≤ 1096) (hs1 : sl + 6 ≤ 26258) (i : Int32) (k : SS → SS → SS → SS → SS → SS → SL → SL → SS → SL → Option Int32) (hk : ∀ (B : SS) (P : SS) (M : SS) (T : SS) (K : SS) (U : SS) (L : SL) (O : SL) (S : SS) (V : SL), k B P M T K U L O S V = some 1 → zW p l e room_1 s m args below meth c 8 D A s.heap (cl + 1) (sl + 6) Q (zwX7 cI cJ cZ ab a5 a3 a6 a1 a0 B P M T K U L ++ (zwO cJ ao O ++ zwX8 cI cJ cZ a8 S V)) [(0, .ref b), (1, .ref ab), (2, .ref (a8 0)), (3, .ref ao), (4, .int i)] 1886 []) (B : SS) (P : SS) (M : SS) (T : SS) (K : SS) (U : SS) (L : SL) (O : SL) (S : SS) (V : SL)
    (hF : f_law_27 xs sL i k B P M T K U L O S V = some 1) : zW p l e room_1 s m args below meth c 8 D A s.heap cl sl Q (zwX7 cI cJ cZ ab a5 a3 a6 a1 a0 B P M T K U L ++ (zwO cJ ao O ++ zwX8 cI cJ cZ a8 S V)) [(0, .ref b), (1, .ref ab), (2, .ref (a8 0)), (3, .ref ao), (4, .int i)] 1663 [] := by
  have hc0 : cl ≤ 1096 := Nat.le_of_succ_le hc1
  have hs0 : sl ≤ 26258 := Nat.le_trans (Nat.le_add_right _ _) hs1
  refine z_aload_n C dL_law_1663 rfl 1 rfl ?_
  refine z_aload_n C dL_law_1664 rfl 0 rfl ?_
  refine z_iload C dL_law_1665 4 rfl ?_
  refine z_iconst (v := 1) C dL_law_1667 (by decide) ?_
  refine z_iadd C dL_law_1668 ?_
  obtain ⟨g1, hF⟩ := zix_some hF
  refine z_sld C hX hbl hbA g1 dL_law_1669 ?_
  refine z_aload_n C dL_law_1670 rfl 3 rfl ?_
  obtain ⟨r2, er2, hF⟩ := zbd hF
  refine z_lcallS (n := 3) (As := [.ref ab, .int (xs (i + 1).toNatClampNeg), .ref ao]) (ws' := (zwX7 cI cJ cZ ab a5 a3 a6 a1 a0 B P M T K U L ++ (zwO cJ ao r2.2 ++ zwX8 cI cJ cZ a8 S V))) C XE XN (c_L_kindOf l hl D cI cJ cZ ab a5 a3 a6 a1 a0 ao B P M T K U L O (xs (i + 1).toNatClampNeg) r2 er2) gL_law_L_kindOf rfl (by decide +kernel) ⟨Nat.le_of_ble_eq_true rfl, Nat.le_of_ble_eq_true rfl⟩ ⟨hc1, hs1⟩ [] (zwX8 cI cJ cZ a8 S V) zAs1 zAs2 rfl rfl (Nat.le_of_ble_eq_true rfl) dL_law_1671 ?_
  refine z_istore (lv' := [(5, .int r2.1), (0, .ref b), (1, .ref ab), (2, .ref (a8 0)), (3, .ref ao), (4, .int i)]) C dL_law_1674 (by decide) rfl ?_
  refine z_aload_n C dL_law_1676 rfl 3 rfl ?_
  refine z_aload_n C dL_law_1677 rfl 1 rfl ?_
  refine z_iload C dL_law_1678 5 rfl ?_
  refine z_iconst (v := 1) C dL_law_1680 (by decide) ?_
  refine z_iadd C dL_law_1681 ?_
  obtain ⟨g3, hF⟩ := zix_some hF
  refine z_sld C hX hbl hbA g3 dL_law_1682 ?_
  obtain ⟨r4, er4, hF⟩ := zbd hF
  refine z_callV (n := 1) (As := [.int (xs (i + 1).toNatClampNeg)]) (ws' := (zwX7 cI cJ cZ ab a5 a3 a6 a1 a0 B P M T K U L ++ (zwO cJ ao r2.2 ++ zwX8 cI cJ cZ a8 r4.2 V))) C (c_X8_kindOf l D cI cJ cZ a8 S V (xs (i + 1).toNatClampNeg) r4 er4) gL_law_X8_kindOf rfl rfl rfl (by decide +kernel) ⟨Nat.le_of_ble_eq_true rfl, Nat.le_of_ble_eq_true rfl⟩ ⟨hc1, hs1⟩ 31 rfl rfl ((zwX7 cI cJ cZ ab a5 a3 a6 a1 a0 B P M T K U L) ++ (zwO cJ ao r2.2)) [] zAs3 zAs4 rfl rfl (Nat.le_of_ble_eq_true rfl) dL_law_1683 ?_
  refine z_istore (lv' := [(6, .int r4.1), (5, .int r2.1), (0, .ref b), (1, .ref ab), (2, .ref (a8 0)), (3, .ref ao), (4, .int i)]) C dL_law_1686 (by decide) rfl ?_
  refine z_aload_n C dL_law_1688 rfl 4 rfl ?_
  obtain ⟨r5, er5, hF⟩ := zbd hF
  refine z_callV (n := 0) (As := []) (ws' := (zwX7 cI cJ cZ ab a5 a3 a6 a1 a0 B P M T K U L ++ (zwO cJ ao r2.2 ++ zwX8 cI cJ cZ a8 r4.2 V))) C (c_X8_thrown l D cI cJ cZ a8 r4.2 V r5 er5) gL_law_X8_thrown rfl rfl rfl (by decide +kernel) ⟨Nat.le_of_ble_eq_true rfl, Nat.le_of_ble_eq_true rfl⟩ ⟨hc1, hs1⟩ 31 rfl rfl ((zwX7 cI cJ cZ ab a5 a3 a6 a1 a0 B P M T K U L) ++ (zwO cJ ao r2.2)) [] zAs3 zAs4 rfl rfl (Nat.le_of_ble_eq_true rfl) dL_law_1689 ?_
  refine z_iload C dL_law_1692 1 rfl ?_
  refine z_icmp_eq (tgt := 1699) C dL_law_1694 (by decide) (fun c6 => ?_) (fun c6 => ?_)
  · have hF := zif hF c6
    refine z_iload C dL_law_1699 1 rfl ?_
    refine z_if_ne (tgt := 1716) C dL_law_1701 (by decide) (fun c7 => ?_) (fun c7 => ?_)
    · have hF := zelse hF c7
      refine z_goto (tgt := 1886) C dL_law_1716 (by decide) ?_
      exact z_sub C [2, 3, 4, 5, 6] rfl (hk B P M T K U L r2.2 r4.2 V hF)
    · have hF := zif hF c7
      refine z_aload_n C dL_law_1704 rfl 5 rfl ?_
      refine z_iconst (v := 0) C dL_law_1705 (by decide) ?_
      obtain ⟨g8, hF⟩ := zix_some hF
      refine z_lald (v := (r2.2 (0 : Int32).toNatClampNeg)) C g8 30 rfl rfl rfl dL_law_1706 ?_
      refine z_iload C dL_law_1707 0 rfl ?_
      refine z_i2l C dL_law_1709 ?_
      refine z_lcmp C dL_law_1710 ?_
      refine z_if_eq (tgt := 1716) C dL_law_1711 (by decide) (fun c9 => ?_) (fun c9 => ?_)
      · have hF := zif hF c9
        refine z_goto (tgt := 1886) C dL_law_1716 (by decide) ?_
        exact z_sub C [2, 3, 4, 5, 6] rfl (hk B P M T K U L r2.2 r4.2 V hF)
      · have hF := zelse hF c9
        refine z_iconst (v := 0) C dL_law_1714 (by decide) ?_
        exact absurd (Option.some.inj hF) (by decide)
  · have hF := zelse hF c6
    refine z_iconst (v := 0) C dL_law_1697 (by decide) ?_
    exact absurd (Option.some.inj hF) (by decide)
set_option maxHeartbeats 4000000 in
set_option maxRecDepth 100000 in
theorem c_law_28 (l : Launch) (hl : l.stackTraces = false) (D : va_G) (cI cJ cZ : ClassId) (ab ao : Nat) (a5 a3 a6 a1 a0 a8 : Nat → Nat) {p : Program} {e : Env} {s : State} {m : MethodId} {args : Array Value} {below : List Frame} {meth : Method} {c : Code} {A : Nat → Prop} {rt : Option FieldType} {Q : State → Prop} (C : zC p s m args meth c cL_law 8 rt RL wsL_law D (zTy cI cJ cZ) A s.heap) (XE : zE A s s.heap) (XN : zN s) {b sL : Nat} {xs : Nat → Int32} (hX : va_X b sL xs s s.heap) (hbl : b < s.heap.size) (hbA : ¬ A b)
    (cl sl : Nat) (hc1 : cl + 1 ≤ 1096) (hs1 : sl + 6 ≤ 26258) (i : Int32) (k : SS → SS → SS → SS → SS → SS → SL → SL → SS → SL → Option Int32) (hk : ∀ (B : SS) (P : SS) (M : SS) (T : SS) (K : SS) (U : SS) (L : SL) (O : SL) (S : SS) (V : SL), k B P M T K U L O S V = some 1 → zW p l e room_1 s m args below meth c 8 D A s.heap (cl + 1) (sl + 6) Q (zwX7 cI cJ cZ ab a5 a3 a6 a1 a0 B P M T K U L ++ (zwO cJ ao O ++ zwX8 cI cJ cZ a8 S V)) [(0, .ref b), (1, .ref ab), (2, .ref (a8 0)), (3, .ref ao), (4, .int i)] 1886 []) (B : SS) (P : SS) (M : SS) (T : SS) (K : SS) (U : SS) (L : SL) (O : SL) (S : SS) (V : SL)
    (hF : f_law_28 xs sL i k B P M T K U L O S V = some 1) : zW p l e room_1 s m args below meth c 8 D A s.heap cl sl Q (zwX7 cI cJ cZ ab a5 a3 a6 a1 a0 B P M T K U L ++ (zwO cJ ao O ++ zwX8 cI cJ cZ a8 S V)) [(0, .ref b), (1, .ref ab), (2, .ref (a8 0)), (3, .ref ao), (4, .int i)] 1719 [] := by
  have hc0 : cl ≤ 1096 := Nat.le_of_succ_le hc1
  have hs0 : sl ≤ 26258 := Nat.le_trans (Nat.le_add_right _ _) hs1
  refine z_aload_n C dL_law_1719 rfl 1 rfl ?_
  refine z_aload_n C dL_law_1720 rfl 0 rfl ?_
  refine z_iload C dL_law_1721 4 rfl ?_
  refine z_iconst (v := 1) C dL_law_1723 (by decide) ?_
  refine z_iadd C dL_law_1724 ?_
  obtain ⟨g1, hF⟩ := zix_some hF
  refine z_sld C hX hbl hbA g1 dL_law_1725 ?_
  refine z_aload_n C dL_law_1726 rfl 3 rfl ?_
  obtain ⟨r2, er2, hF⟩ := zbd hF
  refine z_lcallS (n := 3) (As := [.ref ab, .int (xs (i + 1).toNatClampNeg), .ref ao]) (ws' := (zwX7 cI cJ cZ ab a5 a3 a6 a1 a0 B P M T K U L ++ (zwO cJ ao r2.2 ++ zwX8 cI cJ cZ a8 S V))) C XE XN (c_L_subjectOf l hl D cI cJ cZ ab a5 a3 a6 a1 a0 ao B P M T K U L O (xs (i + 1).toNatClampNeg) r2 er2) gL_law_L_subjectOf rfl (by decide +kernel) ⟨Nat.le_of_ble_eq_true rfl, Nat.le_of_ble_eq_true rfl⟩ ⟨hc1, hs1⟩ [] (zwX8 cI cJ cZ a8 S V) zAs1 zAs2 rfl rfl (Nat.le_of_ble_eq_true rfl) dL_law_1727 ?_
  refine z_istore (lv' := [(5, .int r2.1), (0, .ref b), (1, .ref ab), (2, .ref (a8 0)), (3, .ref ao), (4, .int i)]) C dL_law_1730 (by decide) rfl ?_
  refine z_aload_n C dL_law_1732 rfl 3 rfl ?_
  refine z_aload_n C dL_law_1733 rfl 1 rfl ?_
  refine z_iload C dL_law_1734 5 rfl ?_
  refine z_iconst (v := 1) C dL_law_1736 (by decide) ?_
  refine z_iadd C dL_law_1737 ?_
  obtain ⟨g3, hF⟩ := zix_some hF
  refine z_sld C hX hbl hbA g3 dL_law_1738 ?_
  obtain ⟨r4, er4, hF⟩ := zbd hF
  refine z_callV (n := 1) (As := [.int (xs (i + 1).toNatClampNeg)]) (ws' := (zwX7 cI cJ cZ ab a5 a3 a6 a1 a0 B P M T K U L ++ (zwO cJ ao r2.2 ++ zwX8 cI cJ cZ a8 r4.2 V))) C (c_X8_subjectOf l D cI cJ cZ a8 S V (xs (i + 1).toNatClampNeg) r4 er4) gL_law_X8_subjectOf rfl rfl rfl (by decide +kernel) ⟨Nat.le_of_ble_eq_true rfl, Nat.le_of_ble_eq_true rfl⟩ ⟨hc1, hs1⟩ 31 rfl rfl ((zwX7 cI cJ cZ ab a5 a3 a6 a1 a0 B P M T K U L) ++ (zwO cJ ao r2.2)) [] zAs3 zAs4 rfl rfl (Nat.le_of_ble_eq_true rfl) dL_law_1739 ?_
  refine z_istore (lv' := [(6, .int r4.1), (5, .int r2.1), (0, .ref b), (1, .ref ab), (2, .ref (a8 0)), (3, .ref ao), (4, .int i)]) C dL_law_1742 (by decide) rfl ?_
  refine z_aload_n C dL_law_1744 rfl 4 rfl ?_
  obtain ⟨r5, er5, hF⟩ := zbd hF
  refine z_callV (n := 0) (As := []) (ws' := (zwX7 cI cJ cZ ab a5 a3 a6 a1 a0 B P M T K U L ++ (zwO cJ ao r2.2 ++ zwX8 cI cJ cZ a8 r4.2 V))) C (c_X8_thrown l D cI cJ cZ a8 r4.2 V r5 er5) gL_law_X8_thrown rfl rfl rfl (by decide +kernel) ⟨Nat.le_of_ble_eq_true rfl, Nat.le_of_ble_eq_true rfl⟩ ⟨hc1, hs1⟩ 31 rfl rfl ((zwX7 cI cJ cZ ab a5 a3 a6 a1 a0 B P M T K U L) ++ (zwO cJ ao r2.2)) [] zAs3 zAs4 rfl rfl (Nat.le_of_ble_eq_true rfl) dL_law_1745 ?_
  refine z_iload C dL_law_1748 1 rfl ?_
  refine z_icmp_eq (tgt := 1755) C dL_law_1750 (by decide) (fun c6 => ?_) (fun c6 => ?_)
  · have hF := zif hF c6
    refine z_iload C dL_law_1755 1 rfl ?_
    refine z_if_ne (tgt := 1772) C dL_law_1757 (by decide) (fun c7 => ?_) (fun c7 => ?_)
    · have hF := zelse hF c7
      refine z_goto (tgt := 1886) C dL_law_1772 (by decide) ?_
      exact z_sub C [2, 3, 4, 5, 6] rfl (hk B P M T K U L r2.2 r4.2 V hF)
    · have hF := zif hF c7
      refine z_aload_n C dL_law_1760 rfl 5 rfl ?_
      refine z_iconst (v := 0) C dL_law_1761 (by decide) ?_
      obtain ⟨g8, hF⟩ := zix_some hF
      refine z_lald (v := (r2.2 (0 : Int32).toNatClampNeg)) C g8 30 rfl rfl rfl dL_law_1762 ?_
      refine z_iload C dL_law_1763 0 rfl ?_
      refine z_i2l C dL_law_1765 ?_
      refine z_lcmp C dL_law_1766 ?_
      refine z_if_eq (tgt := 1772) C dL_law_1767 (by decide) (fun c9 => ?_) (fun c9 => ?_)
      · have hF := zif hF c9
        refine z_goto (tgt := 1886) C dL_law_1772 (by decide) ?_
        exact z_sub C [2, 3, 4, 5, 6] rfl (hk B P M T K U L r2.2 r4.2 V hF)
      · have hF := zelse hF c9
        refine z_iconst (v := 0) C dL_law_1770 (by decide) ?_
        exact absurd (Option.some.inj hF) (by decide)
  · have hF := zelse hF c6
    refine z_iconst (v := 0) C dL_law_1753 (by decide) ?_
    exact absurd (Option.some.inj hF) (by decide)
set_option maxHeartbeats 4000000 in
set_option maxRecDepth 100000 in
theorem c_law_29 (l : Launch) (hl : l.stackTraces = false) (D : va_G) (cI cJ cZ : ClassId) (ab ao : Nat) (a5 a3 a6 a1 a0 a8 : Nat → Nat) {p : Program} {e : Env} {s : State} {m : MethodId} {args : Array Value} {below : List Frame} {meth : Method} {c : Code} {A : Nat → Prop} {rt : Option FieldType} {Q : State → Prop} (C : zC p s m args meth c cL_law 8 rt RL wsL_law D (zTy cI cJ cZ) A s.heap) (XE : zE A s s.heap) (XN : zN s) {b sL : Nat} {xs : Nat → Int32} (hX : va_X b sL xs s s.heap) (hbl : b < s.heap.size) (hbA : ¬ A b)
    (cl sl : Nat) (hc1 : cl + 1 ≤ 1096) (hs1 : sl + 6 ≤ 26258) (i : Int32) (k : SS → SS → SS → SS → SS → SS → SL → SL → SS → SL → Option Int32) (hk : ∀ (B : SS) (P : SS) (M : SS) (T : SS) (K : SS) (U : SS) (L : SL) (O : SL) (S : SS) (V : SL), k B P M T K U L O S V = some 1 → zW p l e room_1 s m args below meth c 8 D A s.heap (cl + 1) (sl + 6) Q (zwX7 cI cJ cZ ab a5 a3 a6 a1 a0 B P M T K U L ++ (zwO cJ ao O ++ zwX8 cI cJ cZ a8 S V)) [(0, .ref b), (1, .ref ab), (2, .ref (a8 0)), (3, .ref ao), (4, .int i)] 1886 []) (B : SS) (P : SS) (M : SS) (T : SS) (K : SS) (U : SS) (L : SL) (O : SL) (S : SS) (V : SL)
    (hF : f_law_29 xs sL i k B P M T K U L O S V = some 1) : zW p l e room_1 s m args below meth c 8 D A s.heap cl sl Q (zwX7 cI cJ cZ ab a5 a3 a6 a1 a0 B P M T K U L ++ (zwO cJ ao O ++ zwX8 cI cJ cZ a8 S V)) [(0, .ref b), (1, .ref ab), (2, .ref (a8 0)), (3, .ref ao), (4, .int i)] 1775 [] := by
  have hc0 : cl ≤ 1096 := Nat.le_of_succ_le hc1
  have hs0 : sl ≤ 26258 := Nat.le_trans (Nat.le_add_right _ _) hs1
  refine z_aload_n C dL_law_1775 rfl 1 rfl ?_
  refine z_aload_n C dL_law_1776 rfl 0 rfl ?_
  refine z_iload C dL_law_1777 4 rfl ?_
  refine z_iconst (v := 1) C dL_law_1779 (by decide) ?_
  refine z_iadd C dL_law_1780 ?_
  obtain ⟨g1, hF⟩ := zix_some hF
  refine z_sld C hX hbl hbA g1 dL_law_1781 ?_
  refine z_aload_n C dL_law_1782 rfl 3 rfl ?_
  obtain ⟨r2, er2, hF⟩ := zbd hF
  refine z_lcallS (n := 3) (As := [.ref ab, .int (xs (i + 1).toNatClampNeg), .ref ao]) (ws' := (zwX7 cI cJ cZ ab a5 a3 a6 a1 a0 B P M T K U L ++ (zwO cJ ao r2.2 ++ zwX8 cI cJ cZ a8 S V))) C XE XN (c_L_detailOf l hl D cI cJ cZ ab a5 a3 a6 a1 a0 ao B P M T K U L O (xs (i + 1).toNatClampNeg) r2 er2) gL_law_L_detailOf rfl (by decide +kernel) ⟨Nat.le_of_ble_eq_true rfl, Nat.le_of_ble_eq_true rfl⟩ ⟨hc1, hs1⟩ [] (zwX8 cI cJ cZ a8 S V) zAs1 zAs2 rfl rfl (Nat.le_of_ble_eq_true rfl) dL_law_1783 ?_
  refine z_istore (lv' := [(5, .int r2.1), (0, .ref b), (1, .ref ab), (2, .ref (a8 0)), (3, .ref ao), (4, .int i)]) C dL_law_1786 (by decide) rfl ?_
  refine z_aload_n C dL_law_1788 rfl 3 rfl ?_
  refine z_aload_n C dL_law_1789 rfl 1 rfl ?_
  refine z_iload C dL_law_1790 5 rfl ?_
  refine z_iconst (v := 1) C dL_law_1792 (by decide) ?_
  refine z_iadd C dL_law_1793 ?_
  obtain ⟨g3, hF⟩ := zix_some hF
  refine z_sld C hX hbl hbA g3 dL_law_1794 ?_
  obtain ⟨r4, er4, hF⟩ := zbd hF
  refine z_callV (n := 1) (As := [.int (xs (i + 1).toNatClampNeg)]) (ws' := (zwX7 cI cJ cZ ab a5 a3 a6 a1 a0 B P M T K U L ++ (zwO cJ ao r2.2 ++ zwX8 cI cJ cZ a8 r4.2 V))) C (c_X8_detailOf l D cI cJ cZ a8 S V (xs (i + 1).toNatClampNeg) r4 er4) gL_law_X8_detailOf rfl rfl rfl (by decide +kernel) ⟨Nat.le_of_ble_eq_true rfl, Nat.le_of_ble_eq_true rfl⟩ ⟨hc1, hs1⟩ 31 rfl rfl ((zwX7 cI cJ cZ ab a5 a3 a6 a1 a0 B P M T K U L) ++ (zwO cJ ao r2.2)) [] zAs3 zAs4 rfl rfl (Nat.le_of_ble_eq_true rfl) dL_law_1795 ?_
  refine z_istore (lv' := [(6, .int r4.1), (5, .int r2.1), (0, .ref b), (1, .ref ab), (2, .ref (a8 0)), (3, .ref ao), (4, .int i)]) C dL_law_1798 (by decide) rfl ?_
  refine z_aload_n C dL_law_1800 rfl 4 rfl ?_
  obtain ⟨r5, er5, hF⟩ := zbd hF
  refine z_callV (n := 0) (As := []) (ws' := (zwX7 cI cJ cZ ab a5 a3 a6 a1 a0 B P M T K U L ++ (zwO cJ ao r2.2 ++ zwX8 cI cJ cZ a8 r4.2 V))) C (c_X8_thrown l D cI cJ cZ a8 r4.2 V r5 er5) gL_law_X8_thrown rfl rfl rfl (by decide +kernel) ⟨Nat.le_of_ble_eq_true rfl, Nat.le_of_ble_eq_true rfl⟩ ⟨hc1, hs1⟩ 31 rfl rfl ((zwX7 cI cJ cZ ab a5 a3 a6 a1 a0 B P M T K U L) ++ (zwO cJ ao r2.2)) [] zAs3 zAs4 rfl rfl (Nat.le_of_ble_eq_true rfl) dL_law_1801 ?_
  refine z_iload C dL_law_1804 1 rfl ?_
  refine z_icmp_eq (tgt := 1811) C dL_law_1806 (by decide) (fun c6 => ?_) (fun c6 => ?_)
  · have hF := zif hF c6
    refine z_iload C dL_law_1811 1 rfl ?_
    refine z_if_ne (tgt := 1828) C dL_law_1813 (by decide) (fun c7 => ?_) (fun c7 => ?_)
    · have hF := zelse hF c7
      refine z_goto (tgt := 1886) C dL_law_1828 (by decide) ?_
      exact z_sub C [2, 3, 4, 5, 6] rfl (hk B P M T K U L r2.2 r4.2 V hF)
    · have hF := zif hF c7
      refine z_aload_n C dL_law_1816 rfl 5 rfl ?_
      refine z_iconst (v := 0) C dL_law_1817 (by decide) ?_
      obtain ⟨g8, hF⟩ := zix_some hF
      refine z_lald (v := (r2.2 (0 : Int32).toNatClampNeg)) C g8 30 rfl rfl rfl dL_law_1818 ?_
      refine z_iload C dL_law_1819 0 rfl ?_
      refine z_i2l C dL_law_1821 ?_
      refine z_lcmp C dL_law_1822 ?_
      refine z_if_eq (tgt := 1828) C dL_law_1823 (by decide) (fun c9 => ?_) (fun c9 => ?_)
      · have hF := zif hF c9
        refine z_goto (tgt := 1886) C dL_law_1828 (by decide) ?_
        exact z_sub C [2, 3, 4, 5, 6] rfl (hk B P M T K U L r2.2 r4.2 V hF)
      · have hF := zelse hF c9
        refine z_iconst (v := 0) C dL_law_1826 (by decide) ?_
        exact absurd (Option.some.inj hF) (by decide)
  · have hF := zelse hF c6
    refine z_iconst (v := 0) C dL_law_1809 (by decide) ?_
    exact absurd (Option.some.inj hF) (by decide)
set_option maxHeartbeats 4000000 in
set_option maxRecDepth 100000 in
theorem c_law_30 (l : Launch) (hl : l.stackTraces = false) (D : va_G) (cI cJ cZ : ClassId) (ab ao : Nat) (a5 a3 a6 a1 a0 a8 : Nat → Nat) {p : Program} {e : Env} {s : State} {m : MethodId} {args : Array Value} {below : List Frame} {meth : Method} {c : Code} {A : Nat → Prop} {rt : Option FieldType} {Q : State → Prop} (C : zC p s m args meth c cL_law 8 rt RL wsL_law D (zTy cI cJ cZ) A s.heap) (XE : zE A s s.heap) (XN : zN s) {b sL : Nat} {xs : Nat → Int32} (hX : va_X b sL xs s s.heap) (hbl : b < s.heap.size) (hbA : ¬ A b)
    (cl sl : Nat) (hc1 : cl + 1 ≤ 1096) (hs1 : sl + 6 ≤ 26258) (i : Int32) (k : SS → SS → SS → SS → SS → SS → SL → SL → SS → SL → Option Int32) (hk : ∀ (B : SS) (P : SS) (M : SS) (T : SS) (K : SS) (U : SS) (L : SL) (O : SL) (S : SS) (V : SL), k B P M T K U L O S V = some 1 → zW p l e room_1 s m args below meth c 8 D A s.heap (cl + 1) (sl + 6) Q (zwX7 cI cJ cZ ab a5 a3 a6 a1 a0 B P M T K U L ++ (zwO cJ ao O ++ zwX8 cI cJ cZ a8 S V)) [(0, .ref b), (1, .ref ab), (2, .ref (a8 0)), (3, .ref ao), (4, .int i)] 1886 []) (B : SS) (P : SS) (M : SS) (T : SS) (K : SS) (U : SS) (L : SL) (O : SL) (S : SS) (V : SL)
    (hF : f_law_30 xs sL i k B P M T K U L O S V = some 1) : zW p l e room_1 s m args below meth c 8 D A s.heap cl sl Q (zwX7 cI cJ cZ ab a5 a3 a6 a1 a0 B P M T K U L ++ (zwO cJ ao O ++ zwX8 cI cJ cZ a8 S V)) [(0, .ref b), (1, .ref ab), (2, .ref (a8 0)), (3, .ref ao), (4, .int i)] 1831 [] := by
  have hc0 : cl ≤ 1096 := Nat.le_of_succ_le hc1
  have hs0 : sl ≤ 26258 := Nat.le_trans (Nat.le_add_right _ _) hs1
  refine z_aload_n C dL_law_1831 rfl 1 rfl ?_
  refine z_aload_n C dL_law_1832 rfl 0 rfl ?_
  refine z_iload C dL_law_1833 4 rfl ?_
  refine z_iconst (v := 1) C dL_law_1835 (by decide) ?_
  refine z_iadd C dL_law_1836 ?_
  obtain ⟨g1, hF⟩ := zix_some hF
  refine z_sld C hX hbl hbA g1 dL_law_1837 ?_
  refine z_aload_n C dL_law_1838 rfl 3 rfl ?_
  obtain ⟨r2, er2, hF⟩ := zbd hF
  refine z_lcallS (n := 3) (As := [.ref ab, .int (xs (i + 1).toNatClampNeg), .ref ao]) (ws' := (zwX7 cI cJ cZ ab a5 a3 a6 a1 a0 B P M T K U L ++ (zwO cJ ao r2.2 ++ zwX8 cI cJ cZ a8 S V))) C XE XN (c_L_sumOf l hl D cI cJ cZ ab a5 a3 a6 a1 a0 ao B P M T K U L O (xs (i + 1).toNatClampNeg) r2 er2) gL_law_L_sumOf rfl (by decide +kernel) ⟨Nat.le_of_ble_eq_true rfl, Nat.le_of_ble_eq_true rfl⟩ ⟨hc1, hs1⟩ [] (zwX8 cI cJ cZ a8 S V) zAs1 zAs2 rfl rfl (Nat.le_of_ble_eq_true rfl) dL_law_1839 ?_
  refine z_istore (lv' := [(5, .int r2.1), (0, .ref b), (1, .ref ab), (2, .ref (a8 0)), (3, .ref ao), (4, .int i)]) C dL_law_1842 (by decide) rfl ?_
  refine z_aload_n C dL_law_1844 rfl 3 rfl ?_
  refine z_aload_n C dL_law_1845 rfl 1 rfl ?_
  refine z_iload C dL_law_1846 5 rfl ?_
  refine z_iconst (v := 1) C dL_law_1848 (by decide) ?_
  refine z_iadd C dL_law_1849 ?_
  obtain ⟨g3, hF⟩ := zix_some hF
  refine z_sld C hX hbl hbA g3 dL_law_1850 ?_
  obtain ⟨r4, er4, hF⟩ := zbd hF
  refine z_callV (n := 1) (As := [.int (xs (i + 1).toNatClampNeg)]) (ws' := (zwX7 cI cJ cZ ab a5 a3 a6 a1 a0 B P M T K U L ++ (zwO cJ ao r2.2 ++ zwX8 cI cJ cZ a8 r4.2 V))) C (c_X8_sumOf l D cI cJ cZ a8 S V (xs (i + 1).toNatClampNeg) r4 er4) gL_law_X8_sumOf rfl rfl rfl (by decide +kernel) ⟨Nat.le_of_ble_eq_true rfl, Nat.le_of_ble_eq_true rfl⟩ ⟨hc1, hs1⟩ 31 rfl rfl ((zwX7 cI cJ cZ ab a5 a3 a6 a1 a0 B P M T K U L) ++ (zwO cJ ao r2.2)) [] zAs3 zAs4 rfl rfl (Nat.le_of_ble_eq_true rfl) dL_law_1851 ?_
  refine z_lstore (lv' := [(6, .long r4.1), (5, .int r2.1), (0, .ref b), (1, .ref ab), (2, .ref (a8 0)), (3, .ref ao), (4, .int i)]) C dL_law_1854 (by decide) rfl ?_
  refine z_aload_n C dL_law_1856 rfl 4 rfl ?_
  obtain ⟨r5, er5, hF⟩ := zbd hF
  refine z_callV (n := 0) (As := []) (ws' := (zwX7 cI cJ cZ ab a5 a3 a6 a1 a0 B P M T K U L ++ (zwO cJ ao r2.2 ++ zwX8 cI cJ cZ a8 r4.2 V))) C (c_X8_thrown l D cI cJ cZ a8 r4.2 V r5 er5) gL_law_X8_thrown rfl rfl rfl (by decide +kernel) ⟨Nat.le_of_ble_eq_true rfl, Nat.le_of_ble_eq_true rfl⟩ ⟨hc1, hs1⟩ 31 rfl rfl ((zwX7 cI cJ cZ ab a5 a3 a6 a1 a0 B P M T K U L) ++ (zwO cJ ao r2.2)) [] zAs3 zAs4 rfl rfl (Nat.le_of_ble_eq_true rfl) dL_law_1857 ?_
  refine z_iload C dL_law_1860 1 rfl ?_
  refine z_icmp_eq (tgt := 1867) C dL_law_1862 (by decide) (fun c6 => ?_) (fun c6 => ?_)
  · have hF := zif hF c6
    refine z_iload C dL_law_1867 1 rfl ?_
    refine z_if_ne (tgt := 1883) C dL_law_1869 (by decide) (fun c7 => ?_) (fun c7 => ?_)
    · have hF := zelse hF c7
      refine z_goto (tgt := 1886) C dL_law_1883 (by decide) ?_
      exact z_sub C [2, 3, 4, 5, 6] rfl (hk B P M T K U L r2.2 r4.2 V hF)
    · have hF := zif hF c7
      refine z_aload_n C dL_law_1872 rfl 5 rfl ?_
      refine z_iconst (v := 0) C dL_law_1873 (by decide) ?_
      obtain ⟨g8, hF⟩ := zix_some hF
      refine z_lald (v := (r2.2 (0 : Int32).toNatClampNeg)) C g8 30 rfl rfl rfl dL_law_1874 ?_
      refine z_lload C dL_law_1875 0 rfl ?_
      refine z_lcmp C dL_law_1877 ?_
      refine z_if_eq (tgt := 1883) C dL_law_1878 (by decide) (fun c9 => ?_) (fun c9 => ?_)
      · have hF := zif hF c9
        refine z_goto (tgt := 1886) C dL_law_1883 (by decide) ?_
        exact z_sub C [2, 3, 4, 5, 6] rfl (hk B P M T K U L r2.2 r4.2 V hF)
      · have hF := zelse hF c9
        refine z_iconst (v := 0) C dL_law_1881 (by decide) ?_
        exact absurd (Option.some.inj hF) (by decide)
  · have hF := zelse hF c6
    refine z_iconst (v := 0) C dL_law_1865 (by decide) ?_
    exact absurd (Option.some.inj hF) (by decide)
