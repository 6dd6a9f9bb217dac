set_option maxHeartbeats 4000000 in
set_option maxRecDepth 100000 in
theorem c_law_0 (l : Launch) (hl : l.stackTraces = false) (D : va_G) (cI cJ cZ : ClassId) (ab ao : Nat) (a5 a3 a6 a1 a0 a8 : Nat → Nat) {p : Program} {e : Env} {s : State} {m : MethodId} {args : Array Value} {below : List Frame} {meth : Method} {c : Code} {A : Nat → Prop} {rt : Option FieldType} {Q : State → Prop} (C : zC p s m args meth c cL_law 8 rt RL wsL_law D (zTy cI cJ cZ) A s.heap) (XE : zE A s s.heap) (XN : zN s) {b sL : Nat} {xs : Nat → Int32} (hX : va_X b sL xs s s.heap) (hbl : b < s.heap.size) (hbA : ¬ A b)
    (cl sl : Nat) (hc1 : cl + 1 ≤ 1096) (hs1 : sl + 6 ≤ 26258) (i : Int32) (k : SS → SS → SS → SS → SS → SS → SL → SL → SS → SL → Option Int32) (hk : ∀ (B : SS) (P : SS) (M : SS) (T : SS) (K : SS) (U : SS) (L : SL) (O : SL) (S : SS) (V : SL), k B P M T K U L O S V = some 1 → zW p l e room_1 s m args below meth c 8 D A s.heap (cl + 1) (sl + 6) Q (zwX7 cI cJ cZ ab a5 a3 a6 a1 a0 B P M T K U L ++ (zwO cJ ao O ++ zwX8 cI cJ cZ a8 S V)) [(0, .ref b), (1, .ref ab), (2, .ref (a8 0)), (3, .ref ao), (4, .int i)] 1886 []) (B : SS) (P : SS) (M : SS) (T : SS) (K : SS) (U : SS) (L : SL) (O : SL) (S : SS) (V : SL)
    (hF : f_law_0 xs sL i k B P M T K U L O S V = some 1) : zW p l e room_1 s m args below meth c 8 D A s.heap cl sl Q (zwX7 cI cJ cZ ab a5 a3 a6 a1 a0 B P M T K U L ++ (zwO cJ ao O ++ zwX8 cI cJ cZ a8 S V)) [(0, .ref b), (1, .ref ab), (2, .ref (a8 0)), (3, .ref ao), (4, .int i)] 180 [] := by
  have hc0 : cl ≤ 1096 := Nat.le_of_succ_le hc1
  have hs0 : sl ≤ 26258 := Nat.le_trans (Nat.le_add_right _ _) hs1
  refine z_aload_n C dL_law_180 rfl 1 rfl ?_
  refine z_aload_n C dL_law_181 rfl 3 rfl ?_
  obtain ⟨r1, er1, hF⟩ := zbd hF
  refine z_lcallS (n := 2) (As := [.ref ab, .ref ao]) (ws' := (zwX7 cI cJ cZ ab a5 a3 a6 a1 a0 B r1.2.1 M T K U L ++ (zwO cJ ao r1.2.2 ++ zwX8 cI cJ cZ a8 S V))) C XE XN (c_L_policy l hl D cI cJ cZ ab a5 a3 a6 a1 a0 ao B P M T K U L O r1 er1) gL_law_L_policy rfl (by decide +kernel) ⟨Nat.le_of_ble_eq_true rfl, Nat.le_of_ble_eq_true rfl⟩ ⟨hc1, hs1⟩ [] (zwX8 cI cJ cZ a8 S V) zAs1 zAs2 rfl rfl (Nat.le_of_ble_eq_true rfl) dL_law_182 ?_
  refine z_istore (lv' := [(5, .int r1.1), (0, .ref b), (1, .ref ab), (2, .ref (a8 0)), (3, .ref ao), (4, .int i)]) C dL_law_185 (by decide) rfl ?_
  refine z_aload_n C dL_law_187 rfl 3 rfl ?_
  obtain ⟨r2, er2, hF⟩ := zbd hF
  refine z_callV (n := 0) (As := []) (ws' := (zwX7 cI cJ cZ ab a5 a3 a6 a1 a0 B r1.2.1 M T K U L ++ (zwO cJ ao r1.2.2 ++ zwX8 cI cJ cZ a8 r2.2 V))) C (c_X8_policy l D cI cJ cZ a8 S V r2 er2) gL_law_X8_policy rfl rfl rfl (by decide +kernel) ⟨Nat.le_of_ble_eq_true rfl, Nat.le_of_ble_eq_true rfl⟩ ⟨hc1, hs1⟩ 31 rfl rfl ((zwX7 cI cJ cZ ab a5 a3 a6 a1 a0 B r1.2.1 M T K U L) ++ (zwO cJ ao r1.2.2)) [] zAs3 zAs4 rfl rfl (Nat.le_of_ble_eq_true rfl) dL_law_188 ?_
  refine z_istore (lv' := [(6, .int r2.1), (5, .int r1.1), (0, .ref b), (1, .ref ab), (2, .ref (a8 0)), (3, .ref ao), (4, .int i)]) C dL_law_191 (by decide) rfl ?_
  refine z_aload_n C dL_law_193 rfl 4 rfl ?_
  obtain ⟨r3, er3, hF⟩ := zbd hF
  refine z_callV (n := 0) (As := []) (ws' := (zwX7 cI cJ cZ ab a5 a3 a6 a1 a0 B r1.2.1 M T K U L ++ (zwO cJ ao r1.2.2 ++ zwX8 cI cJ cZ a8 r2.2 V))) C (c_X8_thrown l D cI cJ cZ a8 r2.2 V r3 er3) gL_law_X8_thrown rfl rfl rfl (by decide +kernel) ⟨Nat.le_of_ble_eq_true rfl, Nat.le_of_ble_eq_true rfl⟩ ⟨hc1, hs1⟩ 31 rfl rfl ((zwX7 cI cJ cZ ab a5 a3 a6 a1 a0 B r1.2.1 M T K U L) ++ (zwO cJ ao r1.2.2)) [] zAs3 zAs4 rfl rfl (Nat.le_of_ble_eq_true rfl) dL_law_194 ?_
  refine z_iload C dL_law_197 1 rfl ?_
  refine z_icmp_eq (tgt := 204) C dL_law_199 (by decide) (fun c4 => ?_) (fun c4 => ?_)
  · have hF := zif hF c4
    refine z_iload C dL_law_204 1 rfl ?_
    refine z_if_ne (tgt := 221) C dL_law_206 (by decide) (fun c5 => ?_) (fun c5 => ?_)
    · have hF := zelse hF c5
      refine z_goto (tgt := 1886) C dL_law_221 (by decide) ?_
      exact z_sub C [2, 3, 4, 5, 6] rfl (hk B r1.2.1 M T K U L r1.2.2 r2.2 V hF)
    · have hF := zif hF c5
      refine z_aload_n C dL_law_209 rfl 5 rfl ?_
      refine z_iconst (v := 0) C dL_law_210 (by decide) ?_
      obtain ⟨g6, hF⟩ := zix_some hF
      refine z_lald (v := (r1.2.2 (0 : Int32).toNatClampNeg)) C g6 30 rfl rfl rfl dL_law_211 ?_
      refine z_iload C dL_law_212 0 rfl ?_
      refine z_i2l C dL_law_214 ?_
      refine z_lcmp C dL_law_215 ?_
      refine z_if_eq (tgt := 221) C dL_law_216 (by decide) (fun c7 => ?_) (fun c7 => ?_)
      · have hF := zif hF c7
        refine z_goto (tgt := 1886) C dL_law_221 (by decide) ?_
        exact z_sub C [2, 3, 4, 5, 6] rfl (hk B r1.2.1 M T K U L r1.2.2 r2.2 V hF)
      · have hF := zelse hF c7
        refine z_iconst (v := 0) C dL_law_219 (by decide) ?_
        exact absurd (Option.some.inj hF) (by decide)
  · have hF := zelse hF c4
    refine z_iconst (v := 0) C dL_law_202 (by decide) ?_
    exact absurd (Option.some.inj hF) (by decide)
set_option maxHeartbeats 4000000 in
set_option maxRecDepth 100000 in
theorem c_law_1 (l : Launch) (hl : l.stackTraces = false) (D : va_G) (cI cJ cZ : ClassId) (ab ao : Nat) (a5 a3 a6 a1 a0 a8 : Nat → Nat) {p : Program} {e : Env} {s : State} {m : MethodId} {args : Array Value} {below : List Frame} {meth : Method} {c : Code} {A : Nat → Prop} {rt : Option FieldType} {Q : State → Prop} (C : zC p s m args meth c cL_law 8 rt RL wsL_law D (zTy cI cJ cZ) A s.heap) (XE : zE A s s.heap) (XN : zN s) {b sL : Nat} {xs : Nat → Int32} (hX : va_X b sL xs s s.heap) (hbl : b < s.heap.size) (hbA : ¬ A b)
    (cl sl : Nat) (hc1 : cl + 1 ≤ 1096) (hs1 : sl + 6 ≤ 26258) (i : Int32) (k : SS → SS → SS → SS → SS → SS → SL → SL → SS → SL → Option Int32) (hk : ∀ (B : SS) (P : SS) (M : SS) (T : SS) (K : SS) (U : SS) (L : SL) (O : SL) (S : SS) (V : SL), k B P M T K U L O S V = some 1 → zW p l e room_1 s m args below meth c 8 D A s.heap (cl + 1) (sl + 6) Q (zwX7 cI cJ cZ ab a5 a3 a6 a1 a0 B P M T K U L ++ (zwO cJ ao O ++ zwX8 cI cJ cZ a8 S V)) [(0, .ref b), (1, .ref ab), (2, .ref (a8 0)), (3, .ref ao), (4, .int i)] 1886 []) (B : SS) (P : SS) (M : SS) (T : SS) (K : SS) (U : SS) (L : SL) (O : SL) (S : SS) (V : SL)
    (hF : f_law_1 xs sL i k B P M T K U L O S V = some 1) : zW p l e room_1 s m args below meth c 8 D A s.heap cl sl Q (zwX7 cI cJ cZ ab a5 a3 a6 a1 a0 B P M T K U L ++ (zwO cJ ao O ++ zwX8 cI cJ cZ a8 S V)) [(0, .ref b), (1, .ref ab), (2, .ref (a8 0)), (3, .ref ao), (4, .int i)] 224 [] := by
  have hc0 : cl ≤ 1096 := Nat.le_of_succ_le hc1
  have hs0 : sl ≤ 26258 := Nat.le_trans (Nat.le_add_right _ _) hs1
  refine z_aload_n C dL_law_224 rfl 1 rfl ?_
  refine z_aload_n C dL_law_225 rfl 0 rfl ?_
  refine z_iload C dL_law_226 4 rfl ?_
  refine z_iconst (v := 1) C dL_law_228 (by decide) ?_
  refine z_iadd C dL_law_229 ?_
  obtain ⟨g1, hF⟩ := zix_some hF
  refine z_sld C hX hbl hbA g1 dL_law_230 ?_
  refine z_aload_n C dL_law_231 rfl 0 rfl ?_
  refine z_iload C dL_law_232 4 rfl ?_
  refine z_iconst (v := 2) C dL_law_234 (by decide) ?_
  refine z_iadd C dL_law_235 ?_
  obtain ⟨g2, hF⟩ := zix_some hF
  refine z_sld C hX hbl hbA g2 dL_law_236 ?_
  refine z_aload_n C dL_law_237 rfl 0 rfl ?_
  refine z_iload C dL_law_238 4 rfl ?_
  refine z_iconst (v := 3) C dL_law_240 (by decide) ?_
  refine z_iadd C dL_law_241 ?_
  obtain ⟨g3, hF⟩ := zix_some hF
  refine z_sld C hX hbl hbA g3 dL_law_242 ?_
  refine z_if_eq (tgt := 250) C dL_law_243 (by decide) (fun c4 => ?_) (fun c4 => ?_)
  · have hF := zif hF c4
    refine z_iconst (v := 0) C dL_law_250 (by decide) ?_
    refine z_aload_n C dL_law_251 rfl 0 rfl ?_
    refine z_iload C dL_law_252 4 rfl ?_
    refine z_iconst (v := 4) C dL_law_254 (by decide) ?_
    refine z_iadd C dL_law_255 ?_
    obtain ⟨g5, hF⟩ := zix_some hF
    refine z_sld C hX hbl hbA g5 dL_law_256 ?_
    refine z_aload_n C dL_law_257 rfl 3 rfl ?_
    obtain ⟨r6, er6, hF⟩ := zbd hF
    refine z_lcallS (n := 6) (As := [.ref ab, .int (xs (i + 1).toNatClampNeg), .int (xs (i + 2).toNatClampNeg), .int 0, .int (xs (i + 4).toNatClampNeg), .ref ao]) (ws' := (zwX7 cI cJ cZ ab a5 a3 a6 a1 a0 B r6.2.1 M T K U L ++ (zwO cJ ao r6.2.2 ++ zwX8 cI cJ cZ a8 S V))) C XE XN (c_L_allow l hl D cI cJ cZ ab a5 a3 a6 a1 a0 ao B P M T K U L O (xs (i + 1).toNatClampNeg) (xs (i + 2).toNatClampNeg) 0 (xs (i + 4).toNatClampNeg) r6 er6) gL_law_L_allow rfl (by decide +kernel) ⟨Nat.le_of_ble_eq_true rfl, Nat.le_of_ble_eq_true rfl⟩ ⟨hc1, hs1⟩ [] (zwX8 cI cJ cZ a8 S V) zAs1 zAs2 rfl rfl (Nat.le_of_ble_eq_true rfl) dL_law_258 ?_
    refine z_istore (lv' := [(5, .int r6.1), (0, .ref b), (1, .ref ab), (2, .ref (a8 0)), (3, .ref ao), (4, .int i)]) C dL_law_261 (by decide) rfl ?_
    refine z_aload_n C dL_law_263 rfl 3 rfl ?_
    refine z_aload_n C dL_law_264 rfl 1 rfl ?_
    refine z_iload C dL_law_265 5 rfl ?_
    refine z_iconst (v := 1) C dL_law_267 (by decide) ?_
    refine z_iadd C dL_law_268 ?_
    obtain ⟨g7, hF⟩ := zix_some hF
    refine z_sld C hX hbl hbA g7 dL_law_269 ?_
    refine z_aload_n C dL_law_270 rfl 1 rfl ?_
    refine z_iload C dL_law_271 5 rfl ?_
    refine z_iconst (v := 2) C dL_law_273 (by decide) ?_
    refine z_iadd C dL_law_274 ?_
    obtain ⟨g8, hF⟩ := zix_some hF
    refine z_sld C hX hbl hbA g8 dL_law_275 ?_
    refine z_aload_n C dL_law_276 rfl 1 rfl ?_
    refine z_iload C dL_law_277 5 rfl ?_
    refine z_iconst (v := 3) C dL_law_279 (by decide) ?_
    refine z_iadd C dL_law_280 ?_
    obtain ⟨g9, hF⟩ := zix_some hF
    refine z_sld C hX hbl hbA g9 dL_law_281 ?_
    refine z_if_eq (tgt := 289) C dL_law_282 (by decide) (fun c10 => ?_) (fun c10 => ?_)
    · have hF := zif hF c10
      refine z_iconst (v := 0) C dL_law_289 (by decide) ?_
      refine z_aload_n C dL_law_290 rfl 1 rfl ?_
      refine z_iload C dL_law_291 5 rfl ?_
      refine z_iconst (v := 4) C dL_law_293 (by decide) ?_
      refine z_iadd C dL_law_294 ?_
      obtain ⟨g11, hF⟩ := zix_some hF
      refine z_sld C hX hbl hbA g11 dL_law_295 ?_
      obtain ⟨r12, er12, hF⟩ := zbd hF
      refine z_callV (n := 4) (As := [.int (xs (i + 1).toNatClampNeg), .int (xs (i + 2).toNatClampNeg), .int 0, .int (xs (i + 4).toNatClampNeg)]) (ws' := (zwX7 cI cJ cZ ab a5 a3 a6 a1 a0 B r6.2.1 M T K U L ++ (zwO cJ ao r6.2.2 ++ zwX8 cI cJ cZ a8 r12.2 V))) C (c_X8_allow l D cI cJ cZ a8 S V (xs (i + 1).toNatClampNeg) (xs (i + 2).toNatClampNeg) 0 (xs (i + 4).toNatClampNeg) r12 er12) gL_law_X8_allow rfl rfl rfl (by decide +kernel) ⟨Nat.le_of_ble_eq_true rfl, Nat.le_of_ble_eq_true rfl⟩ ⟨hc1, hs1⟩ 31 rfl rfl ((zwX7 cI cJ cZ ab a5 a3 a6 a1 a0 B r6.2.1 M T K U L) ++ (zwO cJ ao r6.2.2)) [] zAs3 zAs4 rfl rfl (Nat.le_of_ble_eq_true rfl) dL_law_296 ?_
      refine z_istore (lv' := [(6, .int r12.1), (5, .int r6.1), (0, .ref b), (1, .ref ab), (2, .ref (a8 0)), (3, .ref ao), (4, .int i)]) C dL_law_299 (by decide) rfl ?_
      refine z_aload_n C dL_law_301 rfl 4 rfl ?_
      obtain ⟨r13, er13, hF⟩ := zbd hF
      refine z_callV (n := 0) (As := []) (ws' := (zwX7 cI cJ cZ ab a5 a3 a6 a1 a0 B r6.2.1 M T K U L ++ (zwO cJ ao r6.2.2 ++ zwX8 cI cJ cZ a8 r12.2 V))) C (c_X8_thrown l D cI cJ cZ a8 r12.2 V r13 er13) gL_law_X8_thrown rfl rfl rfl (by decide +kernel) ⟨Nat.le_of_ble_eq_true rfl, Nat.le_of_ble_eq_true rfl⟩ ⟨hc1, hs1⟩ 31 rfl rfl ((zwX7 cI cJ cZ ab a5 a3 a6 a1 a0 B r6.2.1 M T K U L) ++ (zwO cJ ao r6.2.2)) [] zAs3 zAs4 rfl rfl (Nat.le_of_ble_eq_true rfl) dL_law_302 ?_
      refine z_iload C dL_law_305 1 rfl ?_
      refine z_icmp_eq (tgt := 312) C dL_law_307 (by decide) (fun c14 => ?_) (fun c14 => ?_)
      · have hF := zif hF c14
        refine z_iload C dL_law_312 1 rfl ?_
        refine z_if_ne (tgt := 329) C dL_law_314 (by decide) (fun c15 => ?_) (fun c15 => ?_)
        · have hF := zelse hF c15
          refine z_goto (tgt := 1886) C dL_law_329 (by decide) ?_
          exact z_sub C [2, 3, 4, 5, 6] rfl (hk B r6.2.1 M T K U L r6.2.2 r12.2 V hF)
        · have hF := zif hF c15
          refine z_aload_n C dL_law_317 rfl 5 rfl ?_
          refine z_iconst (v := 0) C dL_law_318 (by decide) ?_
          obtain ⟨g16, hF⟩ := zix_some hF
          refine z_lald (v := (r6.2.2 (0 : Int32).toNatClampNeg)) C g16 30 rfl rfl rfl dL_law_319 ?_
          refine z_iload C dL_law_320 0 rfl ?_
          refine z_i2l C dL_law_322 ?_
          refine z_lcmp C dL_law_323 ?_
          refine z_if_eq (tgt := 329) C dL_law_324 (by decide) (fun c17 => ?_) (fun c17 => ?_)
          · have hF := zif hF c17
            refine z_goto (tgt := 1886) C dL_law_329 (by decide) ?_
            exact z_sub C [2, 3, 4, 5, 6] rfl (hk B r6.2.1 M T K U L r6.2.2 r12.2 V hF)
          · have hF := zelse hF c17
            refine z_iconst (v := 0) C dL_law_327 (by decide) ?_
            exact absurd (Option.some.inj hF) (by decide)
      · have hF := zelse hF c14
        refine z_iconst (v := 0) C dL_law_310 (by decide) ?_
        exact absurd (Option.some.inj hF) (by decide)
    · have hF := zelse hF c10
      refine z_iconst (v := 1) C dL_law_285 (by decide) ?_
      refine z_goto (tgt := 290) C dL_law_286 (by decide) ?_
      refine z_aload_n C dL_law_290 rfl 1 rfl ?_
      refine z_iload C dL_law_291 5 rfl ?_
      refine z_iconst (v := 4) C dL_law_293 (by decide) ?_
      refine z_iadd C dL_law_294 ?_
      obtain ⟨g18, hF⟩ := zix_some hF
      refine z_sld C hX hbl hbA g18 dL_law_295 ?_
      obtain ⟨r19, er19, hF⟩ := zbd hF
      refine z_callV (n := 4) (As := [.int (xs (i + 1).toNatClampNeg), .int (xs (i + 2).toNatClampNeg), .int 1, .int (xs (i + 4).toNatClampNeg)]) (ws' := (zwX7 cI cJ cZ ab a5 a3 a6 a1 a0 B r6.2.1 M T K U L ++ (zwO cJ ao r6.2.2 ++ zwX8 cI cJ cZ a8 r19.2 V))) C (c_X8_allow l D cI cJ cZ a8 S V (xs (i + 1).toNatClampNeg) (xs (i + 2).toNatClampNeg) 1 (xs (i + 4).toNatClampNeg) r19 er19) gL_law_X8_allow rfl rfl rfl (by decide +kernel) ⟨Nat.le_of_ble_eq_true rfl, Nat.le_of_ble_eq_true rfl⟩ ⟨hc1, hs1⟩ 31 rfl rfl ((zwX7 cI cJ cZ ab a5 a3 a6 a1 a0 B r6.2.1 M T K U L) ++ (zwO cJ ao r6.2.2)) [] zAs3 zAs4 rfl rfl (Nat.le_of_ble_eq_true rfl) dL_law_296 ?_
      refine z_istore (lv' := [(6, .int r19.1), (5, .int r6.1), (0, .ref b), (1, .ref ab), (2, .ref (a8 0)), (3, .ref ao), (4, .int i)]) C dL_law_299 (by decide) rfl ?_
      refine z_aload_n C dL_law_301 rfl 4 rfl ?_
      obtain ⟨r20, er20, hF⟩ := zbd hF
      refine z_callV (n := 0) (As := []) (ws' := (zwX7 cI cJ cZ ab a5 a3 a6 a1 a0 B r6.2.1 M T K U L ++ (zwO cJ ao r6.2.2 ++ zwX8 cI cJ cZ a8 r19.2 V))) C (c_X8_thrown l D cI cJ cZ a8 r19.2 V r20 er20) gL_law_X8_thrown rfl rfl rfl (by decide +kernel) ⟨Nat.le_of_ble_eq_true rfl, Nat.le_of_ble_eq_true rfl⟩ ⟨hc1, hs1⟩ 31 rfl rfl ((zwX7 cI cJ cZ ab a5 a3 a6 a1 a0 B r6.2.1 M T K U L) ++ (zwO cJ ao r6.2.2)) [] zAs3 zAs4 rfl rfl (Nat.le_of_ble_eq_true rfl) dL_law_302 ?_
      refine z_iload C dL_law_305 1 rfl ?_
      refine z_icmp_eq (tgt := 312) C dL_law_307 (by decide) (fun c21 => ?_) (fun c21 => ?_)
      · have hF := zif hF c21
        refine z_iload C dL_law_312 1 rfl ?_
        refine z_if_ne (tgt := 329) C dL_law_314 (by decide) (fun c22 => ?_) (fun c22 => ?_)
        · have hF := zelse hF c22
          refine z_goto (tgt := 1886) C dL_law_329 (by decide) ?_
          exact z_sub C [2, 3, 4, 5, 6] rfl (hk B r6.2.1 M T K U L r6.2.2 r19.2 V hF)
        · have hF := zif hF c22
          refine z_aload_n C dL_law_317 rfl 5 rfl ?_
          refine z_iconst (v := 0) C dL_law_318 (by decide) ?_
          obtain ⟨g23, hF⟩ := zix_some hF
          refine z_lald (v := (r6.2.2 (0 : Int32).toNatClampNeg)) C g23 30 rfl rfl rfl dL_law_319 ?_
          refine z_iload C dL_law_320 0 rfl ?_
          refine z_i2l C dL_law_322 ?_
          refine z_lcmp C dL_law_323 ?_
          refine z_if_eq (tgt := 329) C dL_law_324 (by decide) (fun c24 => ?_) (fun c24 => ?_)
          · have hF := zif hF c24
            refine z_goto (tgt := 1886) C dL_law_329 (by decide) ?_
            exact z_sub C [2, 3, 4, 5, 6] rfl (hk B r6.2.1 M T K U L r6.2.2 r19.2 V hF)
          · have hF := zelse hF c24
            refine z_iconst (v := 0) C dL_law_327 (by decide) ?_
            exact absurd (Option.some.inj hF) (by decide)
      · have hF := zelse hF c21
        refine z_iconst (v := 0) C dL_law_310 (by decide) ?_
        exact absurd (Option.some.inj hF) (by decide)
  · have hF := zelse hF c4
    refine z_iconst (v := 1) C dL_law_246 (by decide) ?_
    refine z_goto (tgt := 251) C dL_law_247 (by decide) ?_
    refine z_aload_n C dL_law_251 rfl 0 rfl ?_
    refine z_iload C dL_law_252 4 rfl ?_
    refine z_iconst (v := 4) C dL_law_254 (by decide) ?_
    refine z_iadd C dL_law_255 ?_
    obtain ⟨g25, hF⟩ := zix_some hF
    refine z_sld C hX hbl hbA g25 dL_law_256 ?_
    refine z_aload_n C dL_law_257 rfl 3 rfl ?_
    obtain ⟨r26, er26, hF⟩ := zbd hF
    refine z_lcallS (n := 6) (As := [.ref ab, .int (xs (i + 1).toNatClampNeg), .int (xs (i + 2).toNatClampNeg), .int 1, .int (xs (i + 4).toNatClampNeg), .ref ao]) (ws' := (zwX7 cI cJ cZ ab a5 a3 a6 a1 a0 B r26.2.1 M T K U L ++ (zwO cJ ao r26.2.2 ++ zwX8 cI cJ cZ a8 S V))) C XE XN (c_L_allow l hl D cI cJ cZ ab a5 a3 a6 a1 a0 ao B P M T K U L O (xs (i + 1).toNatClampNeg) (xs (i + 2).toNatClampNeg) 1 (xs (i + 4).toNatClampNeg) r26 er26) gL_law_L_allow rfl (by decide +kernel) ⟨Nat.le_of_ble_eq_true rfl, Nat.le_of_ble_eq_true rfl⟩ ⟨hc1, hs1⟩ [] (zwX8 cI cJ cZ a8 S V) zAs1 zAs2 rfl rfl (Nat.le_of_ble_eq_true rfl) dL_law_258 ?_
    refine z_istore (lv' := [(5, .int r26.1), (0, .ref b), (1, .ref ab), (2, .ref (a8 0)), (3, .ref ao), (4, .int i)]) C dL_law_261 (by decide) rfl ?_
    refine z_aload_n C dL_law_263 rfl 3 rfl ?_
    refine z_aload_n C dL_law_264 rfl 1 rfl ?_
    refine z_iload C dL_law_265 5 rfl ?_
    refine z_iconst (v := 1) C dL_law_267 (by decide) ?_
    refine z_iadd C dL_law_268 ?_
    obtain ⟨g27, hF⟩ := zix_some hF
    refine z_sld C hX hbl hbA g27 dL_law_269 ?_
    refine z_aload_n C dL_law_270 rfl 1 rfl ?_
    refine z_iload C dL_law_271 5 rfl ?_
    refine z_iconst (v := 2) C dL_law_273 (by decide) ?_
    refine z_iadd C dL_law_274 ?_
    obtain ⟨g28, hF⟩ := zix_some hF
    refine z_sld C hX hbl hbA g28 dL_law_275 ?_
    refine z_aload_n C dL_law_276 rfl 1 rfl ?_
    refine z_iload C dL_law_277 5 rfl ?_
    refine z_iconst (v := 3) C dL_law_279 (by decide) ?_
    refine z_iadd C dL_law_280 ?_
    obtain ⟨g29, hF⟩ := zix_some hF
    refine z_sld C hX hbl hbA g29 dL_law_281 ?_
    refine z_if_eq (tgt := 289) C dL_law_282 (by decide) (fun c30 => ?_) (fun c30 => ?_)
    · have hF := zif hF c30
      refine z_iconst (v := 0) C dL_law_289 (by decide) ?_
      refine z_aload_n C dL_law_290 rfl 1 rfl ?_
      refine z_iload C dL_law_291 5 rfl ?_
      refine z_iconst (v := 4) C dL_law_293 (by decide) ?_
      refine z_iadd C dL_law_294 ?_
      obtain ⟨g31, hF⟩ := zix_some hF
      refine z_sld C hX hbl hbA g31 dL_law_295 ?_
      obtain ⟨r32, er32, hF⟩ := zbd hF
      refine z_callV (n := 4) (As := [.int (xs (i + 1).toNatClampNeg), .int (xs (i + 2).toNatClampNeg), .int 0, .int (xs (i + 4).toNatClampNeg)]) (ws' := (zwX7 cI cJ cZ ab a5 a3 a6 a1 a0 B r26.2.1 M T K U L ++ (zwO cJ ao r26.2.2 ++ zwX8 cI cJ cZ a8 r32.2 V))) C (c_X8_allow l D cI cJ cZ a8 S V (xs (i + 1).toNatClampNeg) (xs (i + 2).toNatClampNeg) 0 (xs (i + 4).toNatClampNeg) r32 er32) gL_law_X8_allow rfl rfl rfl (by decide +kernel) ⟨Nat.le_of_ble_eq_true rfl, Nat.le_of_ble_eq_true rfl⟩ ⟨hc1, hs1⟩ 31 rfl rfl ((zwX7 cI cJ cZ ab a5 a3 a6 a1 a0 B r26.2.1 M T K U L) ++ (zwO cJ ao r26.2.2)) [] zAs3 zAs4 rfl rfl (Nat.le_of_ble_eq_true rfl) dL_law_296 ?_
      refine z_istore (lv' := [(6, .int r32.1), (5, .int r26.1), (0, .ref b), (1, .ref ab), (2, .ref (a8 0)), (3, .ref ao), (4, .int i)]) C dL_law_299 (by decide) rfl ?_
      refine z_aload_n C dL_law_301 rfl 4 rfl ?_
      obtain ⟨r33, er33, hF⟩ := zbd hF
      refine z_callV (n := 0) (As := []) (ws' := (zwX7 cI cJ cZ ab a5 a3 a6 a1 a0 B r26.2.1 M T K U L ++ (zwO cJ ao r26.2.2 ++ zwX8 cI cJ cZ a8 r32.2 V))) C (c_X8_thrown l D cI cJ cZ a8 r32.2 V r33 er33) gL_law_X8_thrown rfl rfl rfl (by decide +kernel) ⟨Nat.le_of_ble_eq_true rfl, Nat.le_of_ble_eq_true rfl⟩ ⟨hc1, hs1⟩ 31 rfl rfl ((zwX7 cI cJ cZ ab a5 a3 a6 a1 a0 B r26.2.1 M T K U L) ++ (zwO cJ ao r26.2.2)) [] zAs3 zAs4 rfl rfl (Nat.le_of_ble_eq_true rfl) dL_law_302 ?_
      refine z_iload C dL_law_305 1 rfl ?_
      refine z_icmp_eq (tgt := 312) C dL_law_307 (by decide) (fun c34 => ?_) (fun c34 => ?_)
      · have hF := zif hF c34
        refine z_iload C dL_law_312 1 rfl ?_
        refine z_if_ne (tgt := 329) C dL_law_314 (by decide) (fun c35 => ?_) (fun c35 => ?_)
        · have hF := zelse hF c35
          refine z_goto (tgt := 1886) C dL_law_329 (by decide) ?_
          exact z_sub C [2, 3, 4, 5, 6] rfl (hk B r26.2.1 M T K U L r26.2.2 r32.2 V hF)
        · have hF := zif hF c35
          refine z_aload_n C dL_law_317 rfl 5 rfl ?_
          refine z_iconst (v := 0) C dL_law_318 (by decide) ?_
          obtain ⟨g36, hF⟩ := zix_some hF
          refine z_lald (v := (r26.2.2 (0 : Int32).toNatClampNeg)) C g36 30 rfl rfl rfl dL_law_319 ?_
          refine z_iload C dL_law_320 0 rfl ?_
          refine z_i2l C dL_law_322 ?_
          refine z_lcmp C dL_law_323 ?_
          refine z_if_eq (tgt := 329) C dL_law_324 (by decide) (fun c37 => ?_) (fun c37 => ?_)
          · have hF := zif hF c37
            refine z_goto (tgt := 1886) C dL_law_329 (by decide) ?_
            exact z_sub C [2, 3, 4, 5, 6] rfl (hk B r26.2.1 M T K U L r26.2.2 r32.2 V hF)
          · have hF := zelse hF c37
            refine z_iconst (v := 0) C dL_law_327 (by decide) ?_
            exact absurd (Option.some.inj hF) (by decide)
      · have hF := zelse hF c34
        refine z_iconst (v := 0) C dL_law_310 (by decide) ?_
        exact absurd (Option.some.inj hF) (by decide)
    · have hF := zelse hF c30
      refine z_iconst (v := 1) C dL_law_285 (by decide) ?_
      refine z_goto (tgt := 290) C dL_law_286 (by decide) ?_
      refine z_aload_n C dL_law_290 rfl 1 rfl ?_
      refine z_iload C dL_law_291 5 rfl ?_
      refine z_iconst (v := 4) C dL_law_293 (by decide) ?_
      refine z_iadd C dL_law_294 ?_
      obtain ⟨g38, hF⟩ := zix_some hF
      refine z_sld C hX hbl hbA g38 dL_law_295 ?_
      obtain ⟨r39, er39, hF⟩ := zbd hF
      refine z_callV (n := 4) (As := [.int (xs (i + 1).toNatClampNeg), .int (xs (i + 2).toNatClampNeg), .int 1, .int (xs (i + 4).toNatClampNeg)]) (ws' := (zwX7 cI cJ cZ ab a5 a3 a6 a1 a0 B r26.2.1 M T K U L ++ (zwO cJ ao r26.2.2 ++ zwX8 cI cJ cZ a8 r39.2 V))) C (c_X8_allow l D cI cJ cZ a8 S V (xs (i + 1).toNatClampNeg) (xs (i + 2).toNatClampNeg) 1 (xs (i + 4).toNatClampNeg) r39 er39) gL_law_X8_allow rfl rfl rfl (by decide +kernel) ⟨Nat.le_of_ble_eq_true rfl, Nat.le_of_ble_eq_true rfl⟩ ⟨hc1, hs1⟩ 31 rfl rfl ((zwX7 cI cJ cZ ab a5 a3 a6 a1 a0 B r26.2.1 M T K U L) ++ (zwO cJ ao r26.2.2)) [] zAs3 zAs4 rfl rfl (Nat.le_of_ble_eq_true rfl) dL_law_296 ?_
      refine z_istore (lv' := [(6, .int r39.1), (5, .int r26.1), (0, .ref b), (1, .ref ab), (2, .ref (a8 0)), (3, .ref ao), (4, .int i)]) C dL_law_299 (by decide) rfl ?_
      refine z_aload_n C dL_law_301 rfl 4 rfl ?_
      obtain ⟨r40, er40, hF⟩ := zbd hF
      refine z_callV (n := 0) (As := []) (ws' := (zwX7 cI cJ cZ ab a5 a3 a6 a1 a0 B r26.2.1 M T K U L ++ (zwO cJ ao r26.2.2 ++ zwX8 cI cJ cZ a8 r39.2 V))) C (c_X8_thrown l D cI cJ cZ a8 r39.2 V r40 er40) gL_law_X8_thrown rfl rfl rfl (by decide +kernel) ⟨Nat.le_of_ble_eq_true rfl, Nat.le_of_ble_eq_true rfl⟩ ⟨hc1, hs1⟩ 31 rfl rfl ((zwX7 cI cJ cZ ab a5 a3 a6 a1 a0 B r26.2.1 M T K U L) ++ (zwO cJ ao r26.2.2)) [] zAs3 zAs4 rfl rfl (Nat.le_of_ble_eq_true rfl) dL_law_302 ?_
      refine z_iload C dL_law_305 1 rfl ?_
      refine z_icmp_eq (tgt := 312) C dL_law_307 (by decide) (fun c41 => ?_) (fun c41 => ?_)
      · have hF := zif hF c41
        refine z_iload C dL_law_312 1 rfl ?_
        refine z_if_ne (tgt := 329) C dL_law_314 (by decide) (fun c42 => ?_) (fun c42 => ?_)
        · have hF := zelse hF c42
          refine z_goto (tgt := 1886) C dL_law_329 (by decide) ?_
          exact z_sub C [2, 3, 4, 5, 6] rfl (hk B r26.2.1 M T K U L r26.2.2 r39.2 V hF)
        · have hF := zif hF c42
          refine z_aload_n C dL_law_317 rfl 5 rfl ?_
          refine z_iconst (v := 0) C dL_law_318 (by decide) ?_
          obtain ⟨g43, hF⟩ := zix_some hF
          refine z_lald (v := (r26.2.2 (0 : Int32).toNatClampNeg)) C g43 30 rfl rfl rfl dL_law_319 ?_
          refine z_iload C dL_law_320 0 rfl ?_
          refine z_i2l C dL_law_322 ?_
          refine z_lcmp C dL_law_323 ?_
          refine z_if_eq (tgt := 329) C dL_law_324 (by decide) (fun c44 => ?_) (fun c44 => ?_)
          · have hF := zif hF c44
            refine z_goto (tgt := 1886) C dL_law_329 (by decide) ?_
            exact z_sub C [2, 3, 4, 5, 6] rfl (hk B r26.2.1 M T K U L r26.2.2 r39.2 V hF)
          · have hF := zelse hF c44
            refine z_iconst (v := 0) C dL_law_327 (by decide) ?_
            exact absurd (Option.some.inj hF) (by decide)
      · have hF := zelse hF c41
        refine z_iconst (v := 0) C dL_law_310 (by decide) ?_
        exact absurd (Option.some.inj hF) (by decide)
set_option maxHeartbeats 4000000 in
set_option maxRecDepth 100000 in
theorem c_law_2 (l : Launch) (hl : l.stackTraces = false) (D : va_G) (cI cJ cZ : ClassId) (ab ao : Nat) (a5 a3 a6 a1 a0 a8 : Nat → Nat) {p : Program} {e : Env} {s : State} {m : MethodId} {args : Array Value} {below : List Frame} {meth : Method} {c : Code} {A : Nat → Prop} {rt : Option FieldType} {Q : State → Prop} (C : zC p s m args meth c cL_law 8 rt RL wsL_law D (zTy cI cJ cZ) A s.heap) (XE : zE A s s.heap) (XN : zN s) {b sL : Nat} {xs : Nat → Int32} (hX : va_X b sL xs s s.heap) (hbl : b < s.heap.size) (hbA : ¬ A b)
    (cl sl : Nat) (hc1 : cl + 1 ≤ 1096) (hs1 : sl + 6 ≤ 26258) (i : Int32) (k : SS → SS → SS → SS → SS → SS → SL → SL → SS → SL → Option Int32) (hk : ∀ (B : SS) (P : SS) (M : SS) (T : SS) (K : SS) (U : SS) (L : SL) (O : SL) (S : SS) (V : SL), k B P M T K U L O S V = some 1 → zW p l e room_1 s m args below meth c 8 D A s.heap (cl + 1) (sl + 6) Q (zwX7 cI cJ cZ ab a5 a3 a6 a1 a0 B P M T K U L ++ (zwO cJ ao O ++ zwX8 cI cJ cZ a8 S V)) [(0, .ref b), (1, .ref ab), (2, .ref (a8 0)), (3, .ref ao), (4, .int i)] 1886 []) (B : SS) (P : SS) (M : SS) (T : SS) (K : SS) (U : SS) (L : SL) (O : SL) (S : SS) (V : SL)
    (hF : f_law_2 xs sL i k B P M T K U L O S V = some 1) : zW p l e room_1 s m args below meth c 8 D A s.heap cl sl Q (zwX7 cI cJ cZ ab a5 a3 a6 a1 a0 B P M T K U L ++ (zwO cJ ao O ++ zwX8 cI cJ cZ a8 S V)) [(0, .ref b), (1, .ref ab), (2, .ref (a8 0)), (3, .ref ao), (4, .int i)] 332 [] := by
  have hc0 : cl ≤ 1096 := Nat.le_of_succ_le hc1
  have hs0 : sl ≤ 26258 := Nat.le_trans (Nat.le_add_right _ _) hs1
  refine z_aload_n C dL_law_332 rfl 1 rfl ?_
  refine z_aload_n C dL_law_333 rfl 0 rfl ?_
  refine z_iload C dL_law_334 4 rfl ?_
  refine z_iconst (v := 1) C dL_law_336 (by decide) ?_
  refine z_iadd C dL_law_337 ?_
  obtain ⟨g1, hF⟩ := zix_some hF
  refine z_sld C hX hbl hbA g1 dL_law_338 ?_
  refine z_aload_n C dL_law_339 rfl 3 rfl ?_
  obtain ⟨r2, er2, hF⟩ := zbd hF
  refine z_lcallS (n := 3) (As := [.ref ab, .int (xs (i + 1).toNatClampNeg), .ref ao]) (ws' := (zwX7 cI cJ cZ ab a5 a3 a6 a1 a0 B r2.2.1 M T K U L ++ (zwO cJ ao r2.2.2 ++ zwX8 cI cJ cZ a8 S V))) C XE XN (c_L_clear l hl D cI cJ cZ ab a5 a3 a6 a1 a0 ao B P M T K U L O (xs (i + 1).toNatClampNeg) r2 er2) gL_law_L_clear rfl (by decide +kernel) ⟨Nat.le_of_ble_eq_true rfl, Nat.le_of_ble_eq_true rfl⟩ ⟨hc1, hs1⟩ [] (zwX8 cI cJ cZ a8 S V) zAs1 zAs2 rfl rfl (Nat.le_of_ble_eq_true rfl) dL_law_340 ?_
  refine z_istore (lv' := [(5, .int r2.1), (0, .ref b), (1, .ref ab), (2, .ref (a8 0)), (3, .ref ao), (4, .int i)]) C dL_law_343 (by decide) rfl ?_
  refine z_aload_n C dL_law_345 rfl 3 rfl ?_
  refine z_aload_n C dL_law_346 rfl 1 rfl ?_
  refine z_iload C dL_law_347 5 rfl ?_
  refine z_iconst (v := 1) C dL_law_349 (by decide) ?_
  refine z_iadd C dL_law_350 ?_
  obtain ⟨g3, hF⟩ := zix_some hF
  refine z_sld C hX hbl hbA g3 dL_law_351 ?_
  obtain ⟨r4, er4, hF⟩ := zbd hF
  refine z_callV (n := 1) (As := [.int (xs (i + 1).toNatClampNeg)]) (ws' := (zwX7 cI cJ cZ ab a5 a3 a6 a1 a0 B r2.2.1 M T K U L ++ (zwO cJ ao r2.2.2 ++ zwX8 cI cJ cZ a8 r4.2 V))) C (c_X8_clear l D cI cJ cZ a8 S V (xs (i + 1).toNatClampNeg) r4 er4) gL_law_X8_clear rfl rfl rfl (by decide +kernel) ⟨Nat.le_of_ble_eq_true rfl, Nat.le_of_ble_eq_true rfl⟩ ⟨hc1, hs1⟩ 31 rfl rfl ((zwX7 cI cJ cZ ab a5 a3 a6 a1 a0 B r2.2.1 M T K U L) ++ (zwO cJ ao r2.2.2)) [] zAs3 zAs4 rfl rfl (Nat.le_of_ble_eq_true rfl) dL_law_352 ?_
  refine z_istore (lv' := [(6, .int r4.1), (5, .int r2.1), (0, .ref b), (1, .ref ab), (2, .ref (a8 0)), (3, .ref ao), (4, .int i)]) C dL_law_355 (by decide) rfl ?_
  refine z_aload_n C dL_law_357 rfl 4 rfl ?_
  obtain ⟨r5, er5, hF⟩ := zbd hF
  refine z_callV (n := 0) (As := []) (ws' := (zwX7 cI cJ cZ ab a5 a3 a6 a1 a0 B r2.2.1 M T K U L ++ (zwO cJ ao r2.2.2 ++ zwX8 cI cJ cZ a8 r4.2 V))) C (c_X8_thrown l D cI cJ cZ a8 r4.2 V r5 er5) gL_law_X8_thrown rfl rfl rfl (by decide +kernel) ⟨Nat.le_of_ble_eq_true rfl, Nat.le_of_ble_eq_true rfl⟩ ⟨hc1, hs1⟩ 31 rfl rfl ((zwX7 cI cJ cZ ab a5 a3 a6 a1 a0 B r2.2.1 M T K U L) ++ (zwO cJ ao r2.2.2)) [] zAs3 zAs4 rfl rfl (Nat.le_of_ble_eq_true rfl) dL_law_358 ?_
  refine z_iload C dL_law_361 1 rfl ?_
  refine z_icmp_eq (tgt := 368) C dL_law_363 (by decide) (fun c6 => ?_) (fun c6 => ?_)
  · have hF := zif hF c6
    refine z_iload C dL_law_368 1 rfl ?_
    refine z_if_ne (tgt := 385) C dL_law_370 (by decide) (fun c7 => ?_) (fun c7 => ?_)
    · have hF := zelse hF c7
      refine z_goto (tgt := 1886) C dL_law_385 (by decide) ?_
      exact z_sub C [2, 3, 4, 5, 6] rfl (hk B r2.2.1 M T K U L r2.2.2 r4.2 V hF)
    · have hF := zif hF c7
      refine z_aload_n C dL_law_373 rfl 5 rfl ?_
      refine z_iconst (v := 0) C dL_law_374 (by decide) ?_
      obtain ⟨g8, hF⟩ := zix_some hF
      refine z_lald (v := (r2.2.2 (0 : Int32).toNatClampNeg)) C g8 30 rfl rfl rfl dL_law_375 ?_
      refine z_iload C dL_law_376 0 rfl ?_
      refine z_i2l C dL_law_378 ?_
      refine z_lcmp C dL_law_379 ?_
      refine z_if_eq (tgt := 385) C dL_law_380 (by decide) (fun c9 => ?_) (fun c9 => ?_)
      · have hF := zif hF c9
        refine z_goto (tgt := 1886) C dL_law_385 (by decide) ?_
        exact z_sub C [2, 3, 4, 5, 6] rfl (hk B r2.2.1 M T K U L r2.2.2 r4.2 V hF)
      · have hF := zelse hF c9
        refine z_iconst (v := 0) C dL_law_383 (by decide) ?_
        exact absurd (Option.some.inj hF) (by decide)
  · have hF := zelse hF c6
    refine z_iconst (v := 0) C dL_law_366 (by decide) ?_
    exact absurd (Option.some.inj hF) (by decide)
set_option maxHeartbeats 4000000 in
set_option maxRecDepth 100000 in
theorem c_law_3 (l : Launch) (hl : l.stackTraces = false) (D : va_G) (cI cJ cZ : ClassId) (ab ao : Nat) (a5 a3 a6 a1 a0 a8 : Nat → Nat) {p : Program} {e : Env} {s : State} {m : MethodId} {args : Array Value} {below : List Frame} {meth : Method} {c : Code} {A : Nat → Prop} {rt : Option FieldType} {Q : State → Prop} (C : zC p s m args meth c cL_law 8 rt RL wsL_law D (zTy cI cJ cZ) A s.heap) (XE : zE A s s.heap) (XN : zN s) {b sL : Nat} {xs : Nat → Int32} (hX : va_X b sL xs s s.heap) (hbl : b < s.heap.size) (hbA : ¬ A b)
    (cl sl : Nat) (hc1 : cl + 1 ≤ 1096) (hs1 : sl + 6 ≤ 26258) (i : Int32) (k : SS → SS → SS → SS → SS → SS → SL → SL → SS → SL → Option Int32) (hk : ∀ (B : SS) (P : SS) (M : SS) (T : SS) (K : SS) (U : SS) (L : SL) (O : SL) (S : SS) (V : SL), k B P M T K U L O S V = some 1 → zW p l e room_1 s m args below meth c 8 D A s.heap (cl + 1) (sl + 6) Q (zwX7 cI cJ cZ ab a5 a3 a6 a1 a0 B P M T K U L ++ (zwO cJ ao O ++ zwX8 cI cJ cZ a8 S V)) [(0, .ref b), (1, .ref ab), (2, .ref (a8 0)), (3, .ref ao), (4, .int i)] 1886 []) (B : SS) (P : SS) (M : SS) (T : SS) (K : SS) (U : SS) (L : SL) (O : SL) (S : SS) (V : SL)
    (hF : f_law_3 xs sL i k B P M T K U L O S V = some 1) : zW p l e room_1 s m args below meth c 8 D A s.heap cl sl Q (zwX7 cI cJ cZ ab a5 a3 a6 a1 a0 B P M T K U L ++ (zwO cJ ao O ++ zwX8 cI cJ cZ a8 S V)) [(0, .ref b), (1, .ref ab), (2, .ref (a8 0)), (3, .ref ao), (4, .int i)] 388 [] := by
  have hc0 : cl ≤ 1096 := Nat.le_of_succ_le hc1
  have hs0 : sl ≤ 26258 := Nat.le_trans (Nat.le_add_right _ _) hs1
  refine z_aload_n C dL_law_388 rfl 1 rfl ?_
  refine z_aload_n C dL_law_389 rfl 0 rfl ?_
  refine z_iload C dL_law_390 4 rfl ?_
  refine z_iconst (v := 1) C dL_law_392 (by decide) ?_
  refine z_iadd C dL_law_393 ?_
  obtain ⟨g1, hF⟩ := zix_some hF
  refine z_sld C hX hbl hbA g1 dL_law_394 ?_
  refine z_aload_n C dL_law_395 rfl 0 rfl ?_
  refine z_iload C dL_law_396 4 rfl ?_
  refine z_iconst (v := 2) C dL_law_398 (by decide) ?_
  refine z_iadd C dL_law_399 ?_
  obtain ⟨g2, hF⟩ := zix_some hF
  refine z_sld C hX hbl hbA g2 dL_law_400 ?_
  refine z_aload_n C dL_law_401 rfl 0 rfl ?_
  refine z_iload C dL_law_402 4 rfl ?_
  refine z_iconst (v := 3) C dL_law_404 (by decide) ?_
  refine z_iadd C dL_law_405 ?_
  obtain ⟨g3, hF⟩ := zix_some hF
  refine z_sld C hX hbl hbA g3 dL_law_406 ?_
  refine z_aload_n C dL_law_407 rfl 3 rfl ?_
  obtain ⟨r4, er4, hF⟩ := zbd hF
  refine z_lcallS (n := 5) (As := [.ref ab, .int (xs (i + 1).toNatClampNeg), .int (xs (i + 2).toNatClampNeg), .int (xs (i + 3).toNatClampNeg), .ref ao]) (ws' := (zwX7 cI cJ cZ ab a5 a3 a6 a1 a0 B P r4.2.1 T K U L ++ (zwO cJ ao r4.2.2 ++ zwX8 cI cJ cZ a8 S V))) C XE XN (c_L_mount l hl D cI cJ cZ ab a5 a3 a6 a1 a0 ao B P M T K U L O (xs (i + 1).toNatClampNeg) (xs (i + 2).toNatClampNeg) (xs (i + 3).toNatClampNeg) r4 er4) gL_law_L_mount rfl (by decide +kernel) ⟨Nat.le_of_ble_eq_true rfl, Nat.le_of_ble_eq_true rfl⟩ ⟨hc1, hs1⟩ [] (zwX8 cI cJ cZ a8 S V) zAs1 zAs2 rfl rfl (Nat.le_of_ble_eq_true rfl) dL_law_408 ?_
  refine z_istore (lv' := [(5, .int r4.1), (0, .ref b), (1, .ref ab), (2, .ref (a8 0)), (3, .ref ao), (4, .int i)]) C dL_law_411 (by decide) rfl ?_
  refine z_aload_n C dL_law_413 rfl 3 rfl ?_
  refine z_aload_n C dL_law_414 rfl 1 rfl ?_
  refine z_iload C dL_law_415 5 rfl ?_
  refine z_iconst (v := 1) C dL_law_417 (by decide) ?_
  refine z_iadd C dL_law_418 ?_
  obtain ⟨g5, hF⟩ := zix_some hF
  refine z_sld C hX hbl hbA g5 dL_law_419 ?_
  refine z_aload_n C dL_law_420 rfl 1 rfl ?_
  refine z_iload C dL_law_421 5 rfl ?_
  refine z_iconst (v := 2) C dL_law_423 (by decide) ?_
  refine z_iadd C dL_law_424 ?_
  obtain ⟨g6, hF⟩ := zix_some hF
  refine z_sld C hX hbl hbA g6 dL_law_425 ?_
  refine z_aload_n C dL_law_426 rfl 1 rfl ?_
  refine z_iload C dL_law_427 5 rfl ?_
  refine z_iconst (v := 3) C dL_law_429 (by decide) ?_
  refine z_iadd C dL_law_430 ?_
  obtain ⟨g7, hF⟩ := zix_some hF
  refine z_sld C hX hbl hbA g7 dL_law_431 ?_
  obtain ⟨r8, er8, hF⟩ := zbd hF
  refine z_callV (n := 3) (As := [.int (xs (i + 1).toNatClampNeg), .int (xs (i + 2).toNatClampNeg), .int (xs (i + 3).toNatClampNeg)]) (ws' := (zwX7 cI cJ cZ ab a5 a3 a6 a1 a0 B P r4.2.1 T K U L ++ (zwO cJ ao r4.2.2 ++ zwX8 cI cJ cZ a8 r8.2 V))) C (c_X8_mount l D cI cJ cZ a8 S V (xs (i + 1).toNatClampNeg) (xs (i + 2).toNatClampNeg) (xs (i + 3).toNatClampNeg) r8 er8) gL_law_X8_mount rfl rfl rfl (by decide +kernel) ⟨Nat.le_of_ble_eq_true rfl, Nat.le_of_ble_eq_true rfl⟩ ⟨hc1, hs1⟩ 31 rfl rfl ((zwX7 cI cJ cZ ab a5 a3 a6 a1 a0 B P r4.2.1 T K U L) ++ (zwO cJ ao r4.2.2)) [] zAs3 zAs4 rfl rfl (Nat.le_of_ble_eq_true rfl) dL_law_432 ?_
  refine z_istore (lv' := [(6, .int r8.1), (5, .int r4.1), (0, .ref b), (1, .ref ab), (2, .ref (a8 0)), (3, .ref ao), (4, .int i)]) C dL_law_435 (by decide) rfl ?_
  refine z_aload_n C dL_law_437 rfl 4 rfl ?_
  obtain ⟨r9, er9, hF⟩ := zbd hF
  refine z_callV (n := 0) (As := []) (ws' := (zwX7 cI cJ cZ ab a5 a3 a6 a1 a0 B P r4.2.1 T K U L ++ (zwO cJ ao r4.2.2 ++ zwX8 cI cJ cZ a8 r8.2 V))) C (c_X8_thrown l D cI cJ cZ a8 r8.2 V r9 er9) gL_law_X8_thrown rfl rfl rfl (by decide +kernel) ⟨Nat.le_of_ble_eq_true rfl, Nat.le_of_ble_eq_true rfl⟩ ⟨hc1, hs1⟩ 31 rfl rfl ((zwX7 cI cJ cZ ab a5 a3 a6 a1 a0 B P r4.2.1 T K U L) ++ (zwO cJ ao r4.2.2)) [] zAs3 zAs4 rfl rfl (Nat.le_of_ble_eq_true rfl) dL_law_438 ?_
  refine z_iload C dL_law_441 1 rfl ?_
  refine z_icmp_eq (tgt := 448) C dL_law_443 (by decide) (fun c10 => ?_) (fun c10 => ?_)
  · have hF := zif hF c10
    refine z_iload C dL_law_448 1 rfl ?_
    refine z_if_ne (tgt := 465) C dL_law_450 (by decide) (fun c11 => ?_) (fun c11 => ?_)
    · have hF := zelse hF c11
      refine z_goto (tgt := 1886) C dL_law_465 (by decide) ?_
      exact z_sub C [2, 3, 4, 5, 6] rfl (hk B P r4.2.1 T K U L r4.2.2 r8.2 V hF)
    · have hF := zif hF c11
      refine z_aload_n C dL_law_453 rfl 5 rfl ?_
      refine z_iconst (v := 0) C dL_law_454 (by decide) ?_
      obtain ⟨g12, hF⟩ := zix_some hF
      refine z_lald (v := (r4.2.2 (0 : Int32).toNatClampNeg)) C g12 30 rfl rfl rfl dL_law_455 ?_
      refine z_iload C dL_law_456 0 rfl ?_
      refine z_i2l C dL_law_458 ?_
      refine z_lcmp C dL_law_459 ?_
      refine z_if_eq (tgt := 465) C dL_law_460 (by decide) (fun c13 => ?_) (fun c13 => ?_)
      · have hF := zif hF c13
        refine z_goto (tgt := 1886) C dL_law_465 (by decide) ?_
        exact z_sub C [2, 3, 4, 5, 6] rfl (hk B P r4.2.1 T K U L r4.2.2 r8.2 V hF)
      · have hF := zelse hF c13
        refine z_iconst (v := 0) C dL_law_463 (by decide) ?_
        exact absurd (Option.some.inj hF) (by decide)
  · have hF := zelse hF c10
    refine z_iconst (v := 0) C dL_law_446 (by decide) ?_
    exact absurd (Option.some.inj hF) (by decide)
set_option maxHeartbeats 4000000 in
set_option maxRecDepth 100000 in
theorem c_law_4 (l : Launch) (hl : l.stackTraces = false) (D : va_G) (cI cJ cZ : ClassId) (ab ao : Nat) (a5 a3 a6 a1 a0 a8 : Nat → Nat) {p : Program} {e : Env} {s : State} {m : MethodId} {args : Array Value} {below : List Frame} {meth : Method} {c : Code} {A : Nat → Prop} {rt : Option FieldType} {Q : State → Prop} (C : zC p s m args meth c cL_law 8 rt RL wsL_law D (zTy cI cJ cZ) A s.heap) (XE : zE A s s.heap) (XN : zN s) {b sL : Nat} {xs : Nat → Int32} (hX : va_X b sL xs s s.heap) (hbl : b < s.heap.size) (hbA : ¬ A b)
    (cl sl : Nat) (hc1 : cl + 1 ≤ 1096) (hs1 : sl + 6 ≤ 26258) (i : Int32) (k : SS → SS → SS → SS → SS → SS → SL → SL → SS → SL → Option Int32) (hk : ∀ (B : SS) (P : SS) (M : SS) (T : SS) (K : SS) (U : SS) (L : SL) (O : SL) (S : SS) (V : SL), k B P M T K U L O S V = some 1 → zW p l e room_1 s m args below meth c 8 D A s.heap (cl + 1) (sl + 6) Q (zwX7 cI cJ cZ ab a5 a3 a6 a1 a0 B P M T K U L ++ (zwO cJ ao O ++ zwX8 cI cJ cZ a8 S V)) [(0, .ref b), (1, .ref ab), (2, .ref (a8 0)), (3, .ref ao), (4, .int i)] 1886 []) (B : SS) (P : SS) (M : SS) (T : SS) (K : SS) (U : SS) (L : SL) (O : SL) (S : SS) (V : SL)
    (hF : f_law_4 xs sL i k B P M T K U L O S V = some 1) : zW p l e room_1 s m args below meth c 8 D A s.heap cl sl Q (zwX7 cI cJ cZ ab a5 a3 a6 a1 a0 B P M T K U L ++ (zwO cJ ao O ++ zwX8 cI cJ cZ a8 S V)) [(0, .ref b), (1, .ref ab), (2, .ref (a8 0)), (3, .ref ao), (4, .int i)] 468 [] := by
  have hc0 : cl ≤ 1096 := Nat.le_of_succ_le hc1
  have hs0 : sl ≤ 26258 := Nat.le_trans (Nat.le_add_right _ _) hs1
  refine z_aload_n C dL_law_468 rfl 1 rfl ?_
  refine z_aload_n C dL_law_469 rfl 0 rfl ?_
  refine z_iload C dL_law_470 4 rfl ?_
  refine z_iconst (v := 1) C dL_law_472 (by decide) ?_
  refine z_iadd C dL_law_473 ?_
  obtain ⟨g1, hF⟩ := zix_some hF
  refine z_sld C hX hbl hbA g1 dL_law_474 ?_
  refine z_aload_n C dL_law_475 rfl 0 rfl ?_
  refine z_iload C dL_law_476 4 rfl ?_
  refine z_iconst (v := 2) C dL_law_478 (by decide) ?_
  refine z_iadd C dL_law_479 ?_
  obtain ⟨g2, hF⟩ := zix_some hF
  refine z_sld C hX hbl hbA g2 dL_law_480 ?_
  refine z_aload_n C dL_law_481 rfl 0 rfl ?_
  refine z_iload C dL_law_482 4 rfl ?_
  refine z_iconst (v := 3) C dL_law_484 (by decide) ?_
  refine z_iadd C dL_law_485 ?_
  obtain ⟨g3, hF⟩ := zix_some hF
  refine z_sld C hX hbl hbA g3 dL_law_486 ?_
  refine z_aload_n C dL_law_487 rfl 0 rfl ?_
  refine z_iload C dL_law_488 4 rfl ?_
  refine z_iconst (v := 4) C dL_law_490 (by decide) ?_
  refine z_iadd C dL_law_491 ?_
  obtain ⟨g4, hF⟩ := zix_some hF
  refine z_sld C hX hbl hbA g4 dL_law_492 ?_
  refine z_aload_n C dL_law_493 rfl 0 rfl ?_
  refine z_iload C dL_law_494 4 rfl ?_
  refine z_iconst (v := 5) C dL_law_496 (by decide) ?_
  refine z_iadd C dL_law_497 ?_
  obtain ⟨g5, hF⟩ := zix_some hF
  refine z_sld C hX hbl hbA g5 dL_law_498 ?_
  refine z_aload_n C dL_law_499 rfl 3 rfl ?_
  obtain ⟨r6, er6, hF⟩ := zbd hF
  refine z_lcallS (n := 7) (As := [.ref ab, .int (xs (i + 1).toNatClampNeg), .int (xs (i + 2).toNatClampNeg), .int (xs (i + 3).toNatClampNeg), .int (xs (i + 4).toNatClampNeg), .int (xs (i + 5).toNatClampNeg), .ref ao]) (ws' := (zwX7 cI cJ cZ ab a5 a3 a6 a1 a0 B P M r6.2.1 K r6.2.2.1 r6.2.2.2.1 ++ (zwO cJ ao r6.2.2.2.2 ++ zwX8 cI cJ cZ a8 S V))) C XE XN (c_L_create l hl D cI cJ cZ ab a5 a3 a6 a1 a0 ao B P M T K U L O (xs (i + 1).toNatClampNeg) (xs (i + 2).toNatClampNeg) (xs (i + 3).toNatClampNeg) (xs (i + 4).toNatClampNeg) (xs (i + 5).toNatClampNeg) r6 er6) gL_law_L_create rfl (by decide +kernel) ⟨Nat.le_of_ble_eq_true rfl, Nat.le_of_ble_eq_true rfl⟩ ⟨hc1, hs1⟩ [] (zwX8 cI cJ cZ a8 S V) zAs1 zAs2 rfl rfl (Nat.le_of_ble_eq_true rfl) dL_law_500 ?_
  refine z_istore (lv' := [(5, .int r6.1), (0, .ref b), (1, .ref ab), (2, .ref (a8 0)), (3, .ref ao), (4, .int i)]) C dL_law_503 (by decide) rfl ?_
  refine z_aload_n C dL_law_505 rfl 3 rfl ?_
  refine z_aload_n C dL_law_506 rfl 1 rfl ?_
  refine z_iload C dL_law_507 5 rfl ?_
  refine z_iconst (v := 1) C dL_law_509 (by decide) ?_
  refine z_iadd C dL_law_510 ?_
  obtain ⟨g7, hF⟩ := zix_some hF
  refine z_sld C hX hbl hbA g7 dL_law_511 ?_
  refine z_aload_n C dL_law_512 rfl 1 rfl ?_
  refine z_iload C dL_law_513 5 rfl ?_
  refine z_iconst (v := 2) C dL_law_515 (by decide) ?_
  refine z_iadd C dL_law_516 ?_
  obtain ⟨g8, hF⟩ := zix_some hF
  refine z_sld C hX hbl hbA g8 dL_law_517 ?_
  refine z_aload_n C dL_law_518 rfl 1 rfl ?_
  refine z_iload C dL_law_519 5 rfl ?_
  refine z_iconst (v := 3) C dL_law_521 (by decide) ?_
  refine z_iadd C dL_law_522 ?_
  obtain ⟨g9, hF⟩ := zix_some hF
  refine z_sld C hX hbl hbA g9 dL_law_523 ?_
  refine z_aload_n C dL_law_524 rfl 1 rfl ?_
  refine z_iload C dL_law_525 5 rfl ?_
  refine z_iconst (v := 4) C dL_law_527 (by decide) ?_
  refine z_iadd C dL_law_528 ?_
  obtain ⟨g10, hF⟩ := zix_some hF
  refine z_sld C hX hbl hbA g10 dL_law_529 ?_
  refine z_aload_n C dL_law_530 rfl 1 rfl ?_
  refine z_iload C dL_law_531 5 rfl ?_
  refine z_iconst (v := 5) C dL_law_533 (by decide) ?_
  refine z_iadd C dL_law_534 ?_
  obtain ⟨g11, hF⟩ := zix_some hF
  refine z_sld C hX hbl hbA g11 dL_law_535 ?_
  obtain ⟨r12, er12, hF⟩ := zbd hF
  refine z_callV (n := 5) (As := [.int (xs (i + 1).toNatClampNeg), .int (xs (i + 2).toNatClampNeg), .int (xs (i + 3).toNatClampNeg), .int (xs (i + 4).toNatClampNeg), .int (xs (i + 5).toNatClampNeg)]) (ws' := (zwX7 cI cJ cZ ab a5 a3 a6 a1 a0 B P M r6.2.1 K r6.2.2.1 r6.2.2.2.1 ++ (zwO cJ ao r6.2.2.2.2 ++ zwX8 cI cJ cZ a8 r12.2.1 r12.2.2))) C (c_X8_create l D cI cJ cZ a8 S V (xs (i + 1).toNatClampNeg) (xs (i + 2).toNatClampNeg) (xs (i + 3).toNatClampNeg) (xs (i + 4).toNatClampNeg) (xs (i + 5).toNatClampNeg) r12 er12) gL_law_X8_create rfl rfl rfl (by decide +kernel) ⟨Nat.le_of_ble_eq_true rfl, Nat.le_of_ble_eq_true rfl⟩ ⟨hc1, hs1⟩ 31 rfl rfl ((zwX7 cI cJ cZ ab a5 a3 a6 a1 a0 B P M r6.2.1 K r6.2.2.1 r6.2.2.2.1) ++ (zwO cJ ao r6.2.2.2.2)) [] zAs3 zAs4 rfl rfl (Nat.le_of_ble_eq_true rfl) dL_law_536 ?_
  refine z_istore (lv' := [(6, .int r12.1), (5, .int r6.1), (0, .ref b), (1, .ref ab), (2, .ref (a8 0)), (3, .ref ao), (4, .int i)]) C dL_law_539 (by decide) rfl ?_
  refine z_aload_n C dL_law_541 rfl 4 rfl ?_
  obtain ⟨r13, er13, hF⟩ := zbd hF
  refine z_callV (n := 0) (As := []) (ws' := (zwX7 cI cJ cZ ab a5 a3 a6 a1 a0 B P M r6.2.1 K r6.2.2.1 r6.2.2.2.1 ++ (zwO cJ ao r6.2.2.2.2 ++ zwX8 cI cJ cZ a8 r12.2.1 r12.2.2))) C (c_X8_thrown l D cI cJ cZ a8 r12.2.1 r12.2.2 r13 er13) gL_law_X8_thrown rfl rfl rfl (by decide +kernel) ⟨Nat.le_of_ble_eq_true rfl, Nat.le_of_ble_eq_true rfl⟩ ⟨hc1, hs1⟩ 31 rfl rfl ((zwX7 cI cJ cZ ab a5 a3 a6 a1 a0 B P M r6.2.1 K r6.2.2.1 r6.2.2.2.1) ++ (zwO cJ ao r6.2.2.2.2)) [] zAs3 zAs4 rfl rfl (Nat.le_of_ble_eq_true rfl) dL_law_542 ?_
  refine z_iload C dL_law_545 1 rfl ?_
  refine z_icmp_eq (tgt := 552) C dL_law_547 (by decide) (fun c14 => ?_) (fun c14 => ?_)
  · have hF := zif hF c14
    refine z_iload C dL_law_552 1 rfl ?_
    refine z_if_ne (tgt := 569) C dL_law_554 (by decide) (fun c15 => ?_) (fun c15 => ?_)
    · have hF := zelse hF c15
      refine z_goto (tgt := 1886) C dL_law_569 (by decide) ?_
      exact z_sub C [2, 3, 4, 5, 6] rfl (hk B P M r6.2.1 K r6.2.2.1 r6.2.2.2.1 r6.2.2.2.2 r12.2.1 r12.2.2 hF)
    · have hF := zif hF c15
      refine z_aload_n C dL_law_557 rfl 5 rfl ?_
      refine z_iconst (v := 0) C dL_law_558 (by decide) ?_
      obtain ⟨g16, hF⟩ := zix_some hF
      refine z_lald (v := (r6.2.2.2.2 (0 : Int32).toNatClampNeg)) C g16 30 rfl rfl rfl dL_law_559 ?_
      refine z_iload C dL_law_560 0 rfl ?_
      refine z_i2l C dL_law_562 ?_
      refine z_lcmp C dL_law_563 ?_
      refine z_if_eq (tgt := 569) C dL_law_564 (by decide) (fun c17 => ?_) (fun c17 => ?_)
      · have hF := zif hF c17
        refine z_goto (tgt := 1886) C dL_law_569 (by decide) ?_
        exact z_sub C [2, 3, 4, 5, 6] rfl (hk B P M r6.2.1 K r6.2.2.1 r6.2.2.2.1 r6.2.2.2.2 r12.2.1 r12.2.2 hF)
      · have hF := zelse hF c17
        refine z_iconst (v := 0) C dL_law_567 (by decide) ?_
        exact absurd (Option.some.inj hF) (by decide)
  · have hF := zelse hF c14
    refine z_iconst (v := 0) C dL_law_550 (by decide) ?_
    exact absurd (Option.some.inj hF) (by decide)
set_option maxHeartbeats 4000000 in
set_option maxRecDepth 100000 in
theorem c_law_5 (l : Launch) (hl : l.stackTraces = false) (D : va_G) (cI cJ cZ : ClassId) (ab ao : Nat) (a5 a3 a6 a1 a0 a8 : Nat → Nat) {p : Program} {e : Env} {s : State} {m : MethodId} {args : Array Value} {below : List Frame} {meth : Method} {c : Code} {A : Nat → Prop} {rt : Option FieldType} {Q : State → Prop} (C : zC p s m args meth c cL_law 8 rt RL wsL_law D (zTy cI cJ cZ) A s.heap) (XE : zE A s s.heap) (XN : zN s) {b sL : Nat} {xs : Nat → Int32} (hX : va_X b sL xs s s.heap) (hbl : b < s.heap.size) (hbA : ¬ A b)
    (cl sl : Nat) (hc1 : cl + 1 ≤ 1096) (hs1 : sl + 6 ≤ 26258) (i : Int32) (k : SS → SS → SS → SS → SS → SS → SL → SL → SS → SL → Option Int32) (hk : ∀ (B : SS) (P : SS) (M : SS) (T : SS) (K : SS) (U : SS) (L : SL) (O : SL) (S : SS) (V : SL), k B P M T K U L O S V = some 1 → zW p l e room_1 s m args below meth c 8 D A s.heap (cl + 1) (sl + 6) Q (zwX7 cI cJ cZ ab a5 a3 a6 a1 a0 B P M T K U L ++ (zwO cJ ao O ++ zwX8 cI cJ cZ a8 S V)) [(0, .ref b), (1, .ref ab), (2, .ref (a8 0)), (3, .ref ao), (4, .int i)] 1886 []) (B : SS) (P : SS) (M : SS) (T : SS) (K : SS) (U : SS) (L : SL) (O : SL) (S : SS) (V : SL)
    (hF : f_law_5 xs sL i k B P M T K U L O S V = some 1) : zW p l e room_1 s m args below meth c 8 D A s.heap cl sl Q (zwX7 cI cJ cZ ab a5 a3 a6 a1 a0 B P M T K U L ++ (zwO cJ ao O ++ zwX8 cI cJ cZ a8 S V)) [(0, .ref b), (1, .ref ab), (2, .ref (a8 0)), (3, .ref ao), (4, .int i)] 572 [] := by
  have hc0 : cl ≤ 1096 := Nat.le_of_succ_le hc1
  have hs0 : sl ≤ 26258 := Nat.le_trans (Nat.le_add_right _ _) hs1
  refine z_aload_n C dL_law_572 rfl 1 rfl ?_
  refine z_aload_n C dL_law_573 rfl 0 rfl ?_
  refine z_iload C dL_law_574 4 rfl ?_
  refine z_iconst (v := 1) C dL_law_576 (by decide) ?_
  refine z_iadd C dL_law_577 ?_
  obtain ⟨g1, hF⟩ := zix_some hF
  refine z_sld C hX hbl hbA g1 dL_law_578 ?_
  refine z_aload_n C dL_law_579 rfl 0 rfl ?_
  refine z_iload C dL_law_580 4 rfl ?_
  refine z_iconst (v := 2) C dL_law_582 (by decide) ?_
  refine z_iadd C dL_law_583 ?_
  obtain ⟨g2, hF⟩ := zix_some hF
  refine z_sld C hX hbl hbA g2 dL_law_584 ?_
  refine z_aload_n C dL_law_585 rfl 3 rfl ?_
  obtain ⟨r3, er3, hF⟩ := zbd hF
  refine z_lcallS (n := 4) (As := [.ref ab, .int (xs (i + 1).toNatClampNeg), .int (xs (i + 2).toNatClampNeg), .ref ao]) (ws' := (zwX7 cI cJ cZ ab a5 a3 a6 a1 a0 B P M r3.2.1 K r3.2.2.1 r3.2.2.2.1 ++ (zwO cJ ao r3.2.2.2.2 ++ zwX8 cI cJ cZ a8 S V))) C XE XN (c_L_renew l hl D cI cJ cZ ab a5 a3 a6 a1 a0 ao B P M T K U L O (xs (i + 1).toNatClampNeg) (xs (i + 2).toNatClampNeg) r3 er3) gL_law_L_renew rfl (by decide +kernel) ⟨Nat.le_of_ble_eq_true rfl, Nat.le_of_ble_eq_true rfl⟩ ⟨hc1, hs1⟩ [] (zwX8 cI cJ cZ a8 S V) zAs1 zAs2 rfl rfl (Nat.le_of_ble_eq_true rfl) dL_law_586 ?_
  refine z_istore (lv' := [(5, .int r3.1), (0, .ref b), (1, .ref ab), (2, .ref (a8 0)), (3, .ref ao), (4, .int i)]) C dL_law_589 (by decide) rfl ?_
  refine z_aload_n C dL_law_591 rfl 3 rfl ?_
  refine z_aload_n C dL_law_592 rfl 1 rfl ?_
  refine z_iload C dL_law_593 5 rfl ?_
  refine z_iconst (v := 1) C dL_law_595 (by decide) ?_
  refine z_iadd C dL_law_596 ?_
  obtain ⟨g4, hF⟩ := zix_some hF
  refine z_sld C hX hbl hbA g4 dL_law_597 ?_
  refine z_aload_n C dL_law_598 rfl 1 rfl ?_
  refine z_iload C dL_law_599 5 rfl ?_
  refine z_iconst (v := 2) C dL_law_601 (by decide) ?_
  refine z_iadd C dL_law_602 ?_
  obtain ⟨g5, hF⟩ := zix_some hF
  refine z_sld C hX hbl hbA g5 dL_law_603 ?_
  obtain ⟨r6, er6, hF⟩ := zbd hF
  refine z_callV (n := 2) (As := [.int (xs (i + 1).toNatClampNeg), .int (xs (i + 2).toNatClampNeg)]) (ws' := (zwX7 cI cJ cZ ab a5 a3 a6 a1 a0 B P M r3.2.1 K r3.2.2.1 r3.2.2.2.1 ++ (zwO cJ ao r3.2.2.2.2 ++ zwX8 cI cJ cZ a8 r6.2.1 r6.2.2))) C (c_X8_renew l D cI cJ cZ a8 S V (xs (i + 1).toNatClampNeg) (xs (i + 2).toNatClampNeg) r6 er6) gL_law_X8_renew rfl rfl rfl (by decide +kernel) ⟨Nat.le_of_ble_eq_true rfl, Nat.le_of_ble_eq_true rfl⟩ ⟨hc1, hs1⟩ 31 rfl rfl ((zwX7 cI cJ cZ ab a5 a3 a6 a1 a0 B P M r3.2.1 K r3.2.2.1 r3.2.2.2.1) ++ (zwO cJ ao r3.2.2.2.2)) [] zAs3 zAs4 rfl rfl (Nat.le_of_ble_eq_true rfl) dL_law_604 ?_
  refine z_istore (lv' := [(6, .int r6.1), (5, .int r3.1), (0, .ref b), (1, .ref ab), (2, .ref (a8 0)), (3, .ref ao), (4, .int i)]) C dL_law_607 (by decide) rfl ?_
  refine z_aload_n C dL_law_609 rfl 4 rfl ?_
  obtain ⟨r7, er7, hF⟩ := zbd hF
  refine z_callV (n := 0) (As := []) (ws' := (zwX7 cI cJ cZ ab a5 a3 a6 a1 a0 B P M r3.2.1 K r3.2.2.1 r3.2.2.2.1 ++ (zwO cJ ao r3.2.2.2.2 ++ zwX8 cI cJ cZ a8 r6.2.1 r6.2.2))) C (c_X8_thrown l D cI cJ cZ a8 r6.2.1 r6.2.2 r7 er7) gL_law_X8_thrown rfl rfl rfl (by decide +kernel) ⟨Nat.le_of_ble_eq_true rfl, Nat.le_of_ble_eq_true rfl⟩ ⟨hc1, hs1⟩ 31 rfl rfl ((zwX7 cI cJ cZ ab a5 a3 a6 a1 a0 B P M r3.2.1 K r3.2.2.1 r3.2.2.2.1) ++ (zwO cJ ao r3.2.2.2.2)) [] zAs3 zAs4 rfl rfl (Nat.le_of_ble_eq_true rfl) dL_law_610 ?_
  refine z_iload C dL_law_613 1 rfl ?_
  refine z_icmp_eq (tgt := 620) C dL_law_615 (by decide) (fun c8 => ?_) (fun c8 => ?_)
  · have hF := zif hF c8
    refine z_iload C dL_law_620 1 rfl ?_
    refine z_if_ne (tgt := 637) C dL_law_622 (by decide) (fun c9 => ?_) (fun c9 => ?_)
    · have hF := zelse hF c9
      refine z_goto (tgt := 1886) C dL_law_637 (by decide) ?_
      exact z_sub C [2, 3, 4, 5, 6] rfl (hk B P M r3.2.1 K r3.2.2.1 r3.2.2.2.1 r3.2.2.2.2 r6.2.1 r6.2.2 hF)
    · have hF := zif hF c9
      refine z_aload_n C dL_law_625 rfl 5 rfl ?_
      refine z_iconst (v := 0) C dL_law_626 (by decide) ?_
      obtain ⟨g10, hF⟩ := zix_some hF
      refine z_lald (v := (r3.2.2.2.2 (0 : Int32).toNatClampNeg)) C g10 30 rfl rfl rfl dL_law_627 ?_
      refine z_iload C dL_law_628 0 rfl ?_
      refine z_i2l C dL_law_630 ?_
      refine z_lcmp C dL_law_631 ?_
      refine z_if_eq (tgt := 637) C dL_law_632 (by decide) (fun c11 => ?_) (fun c11 => ?_)
      · have hF := zif hF c11
        refine z_goto (tgt := 1886) C dL_law_637 (by decide) ?_
        exact z_sub C [2, 3, 4, 5, 6] rfl (hk B P M r3.2.1 K r3.2.2.1 r3.2.2.2.1 r3.2.2.2.2 r6.2.1 r6.2.2 hF)
      · have hF := zelse hF c11
        refine z_iconst (v := 0) C dL_law_635 (by decide) ?_
        exact absurd (Option.some.inj hF) (by decide)
  · have hF := zelse hF c8
    refine z_iconst (v := 0) C dL_law_618 (by decide) ?_
    exact absurd (Option.some.inj hF) (by decide)
set_option maxHeartbeats 4000000 in
set_option maxRecDepth 100000 in
theorem c_law_6 (l : Launch) (hl : l.stackTraces = false) (D : va_G) (cI cJ cZ : ClassId) (ab ao : Nat) (a5 a3 a6 a1 a0 a8 : Nat → Nat) {p : Program} {e : Env} {s : State} {m : MethodId} {args : Array Value} {below : List Frame} {meth : Method} {c : Code} {A : Nat → Prop} {rt : Option FieldType} {Q : State → Prop} (C : zC p s m args meth c cL_law 8 rt RL wsL_law D (zTy cI cJ cZ) A s.heap) (XE : zE A s s.heap) (XN : zN s) {b sL : Nat} {xs : Nat → Int32} (hX : va_X b sL xs s s.heap) (hbl : b < s.heap.size) (hbA : ¬ A b)
    (cl sl : Nat) (hc1 : cl + 1 ≤ 1096) (hs1 : sl + 6 ≤ 26258) (i : Int32) (k : SS → SS → SS → SS → SS → SS → SL → SL → SS → SL → Option Int32) (hk : ∀ (B : SS) (P : SS) (M : SS) (T : SS) (K : SS) (U : SS) (L : SL) (O : SL) (S : SS) (V : SL), k B P M T K U L O S V = some 1 → zW p l e room_1 s m args below meth c 8 D A s.heap (cl + 1) (sl + 6) Q (zwX7 cI cJ cZ ab a5 a3 a6 a1 a0 B P M T K U L ++ (zwO cJ ao O ++ zwX8 cI cJ cZ a8 S V)) [(0, .ref b), (1, .ref ab), (2, .ref (a8 0)), (3, .ref ao), (4, .int i)] 1886 []) (B : SS) (P : SS) (M : SS) (T : SS) (K : SS) (U : SS) (L : SL) (O : SL) (S : SS) (V : SL)
    (hF : f_law_6 xs sL i k B P M T K U L O S V = some 1) : zW p l e room_1 s m args below meth c 8 D A s.heap cl sl Q (zwX7 cI cJ cZ ab a5 a3 a6 a1 a0 B P M T K U L ++ (zwO cJ ao O ++ zwX8 cI cJ cZ a8 S V)) [(0, .ref b), (1, .ref ab), (2, .ref (a8 0)), (3, .ref ao), (4, .int i)] 640 [] := by
  have hc0 : cl ≤ 1096 := Nat.le_of_succ_le hc1
  have hs0 : sl ≤ 26258 := Nat.le_trans (Nat.le_add_right _ _) hs1
  refine z_aload_n C dL_law_640 rfl 1 rfl ?_
  refine z_aload_n C dL_law_641 rfl 0 rfl ?_
  refine z_iload C dL_law_642 4 rfl ?_
  refine z_iconst (v := 1) C dL_law_644 (by decide) ?_
  refine z_iadd C dL_law_645 ?_
  obtain ⟨g1, hF⟩ := zix_some hF
  refine z_sld C hX hbl hbA g1 dL_law_646 ?_
  refine z_aload_n C dL_law_647 rfl 3 rfl ?_
  obtain ⟨r2, er2, hF⟩ := zbd hF
  refine z_lcallS (n := 3) (As := [.ref ab, .int (xs (i + 1).toNatClampNeg), .ref ao]) (ws' := (zwX7 cI cJ cZ ab a5 a3 a6 a1 a0 B P M r2.2.1 r2.2.2.1 r2.2.2.2.1 r2.2.2.2.2.1 ++ (zwO cJ ao r2.2.2.2.2.2 ++ zwX8 cI cJ cZ a8 S V))) C XE XN (c_L_revoke l hl D cI cJ cZ ab a5 a3 a6 a1 a0 ao B P M T K U L O (xs (i + 1).toNatClampNeg) r2 er2) gL_law_L_revoke rfl (by decide +kernel) ⟨Nat.le_of_ble_eq_true rfl, Nat.le_of_ble_eq_true rfl⟩ ⟨hc1, hs1⟩ [] (zwX8 cI cJ cZ a8 S V) zAs1 zAs2 rfl rfl (Nat.le_of_ble_eq_true rfl) dL_law_648 ?_
  refine z_istore (lv' := [(5, .int r2.1), (0, .ref b), (1, .ref ab), (2, .ref (a8 0)), (3, .ref ao), (4, .int i)]) C dL_law_651 (by decide) rfl ?_
  refine z_aload_n C dL_law_653 rfl 3 rfl ?_
  refine z_aload_n C dL_law_654 rfl 1 rfl ?_
  refine z_iload C dL_law_655 5 rfl ?_
  refine z_iconst (v := 1) C dL_law_657 (by decide) ?_
  refine z_iadd C dL_law_658 ?_
  obtain ⟨g3, hF⟩ := zix_some hF
  refine z_sld C hX hbl hbA g3 dL_law_659 ?_
  obtain ⟨r4, er4, hF⟩ := zbd hF
  refine z_callV (n := 1) (As := [.int (xs (i + 1).toNatClampNeg)]) (ws' := (zwX7 cI cJ cZ ab a5 a3 a6 a1 a0 B P M r2.2.1 r2.2.2.1 r2.2.2.2.1 r2.2.2.2.2.1 ++ (zwO cJ ao r2.2.2.2.2.2 ++ zwX8 cI cJ cZ a8 r4.2.1 r4.2.2))) C (c_X8_revoke l D cI cJ cZ a8 S V (xs (i + 1).toNatClampNeg) r4 er4) gL_law_X8_revoke rfl rfl rfl (by decide +kernel) ⟨Nat.le_of_ble_eq_true rfl, Nat.le_of_ble_eq_true rfl⟩ ⟨hc1, hs1⟩ 31 rfl rfl ((zwX7 cI cJ cZ ab a5 a3 a6 a1 a0 B P M r2.2.1 r2.2.2.1 r2.2.2.2.1 r2.2.2.2.2.1) ++ (zwO cJ ao r2.2.2.2.2.2)) [] zAs3 zAs4 rfl rfl (Nat.le_of_ble_eq_true rfl) dL_law_660 ?_
  refine z_istore (lv' := [(6, .int r4.1), (5, .int r2.1), (0, .ref b), (1, .ref ab), (2, .ref (a8 0)), (3, .ref ao), (4, .int i)]) C dL_law_663 (by decide) rfl ?_
  refine z_aload_n C dL_law_665 rfl 4 rfl ?_
  obtain ⟨r5, er5, hF⟩ := zbd hF
  refine z_callV (n := 0) (As := []) (ws' := (zwX7 cI cJ cZ ab a5 a3 a6 a1 a0 B P M r2.2.1 r2.2.2.1 r2.2.2.2.1 r2.2.2.2.2.1 ++ (zwO cJ ao r2.2.2.2.2.2 ++ zwX8 cI cJ cZ a8 r4.2.1 r4.2.2))) C (c_X8_thrown l D cI cJ cZ a8 r4.2.1 r4.2.2 r5 er5) gL_law_X8_thrown rfl rfl rfl (by decide +kernel) ⟨Nat.le_of_ble_eq_true rfl, Nat.le_of_ble_eq_true rfl⟩ ⟨hc1, hs1⟩ 31 rfl rfl ((zwX7 cI cJ cZ ab a5 a3 a6 a1 a0 B P M r2.2.1 r2.2.2.1 r2.2.2.2.1 r2.2.2.2.2.1) ++ (zwO cJ ao r2.2.2.2.2.2)) [] zAs3 zAs4 rfl rfl (Nat.le_of_ble_eq_true rfl) dL_law_666 ?_
  refine z_iload C dL_law_669 1 rfl ?_
  refine z_icmp_eq (tgt := 676) C dL_law_671 (by decide) (fun c6 => ?_) (fun c6 => ?_)
  · have hF := zif hF c6
    refine z_iload C dL_law_676 1 rfl ?_
    refine z_if_ne (tgt := 693) C dL_law_678 (by decide) (fun c7 => ?_) (fun c7 => ?_)
    · have hF := zelse hF c7
      refine z_goto (tgt := 1886) C dL_law_693 (by decide) ?_
      exact z_sub C [2, 3, 4, 5, 6] rfl (hk B P M r2.2.1 r2.2.2.1 r2.2.2.2.1 r2.2.2.2.2.1 r2.2.2.2.2.2 r4.2.1 r4.2.2 hF)
    · have hF := zif hF c7
      refine z_aload_n C dL_law_681 rfl 5 rfl ?_
      refine z_iconst (v := 0) C dL_law_682 (by decide) ?_
      obtain ⟨g8, hF⟩ := zix_some hF
      refine z_lald (v := (r2.2.2.2.2.2 (0 : Int32).toNatClampNeg)) C g8 30 rfl rfl rfl dL_law_683 ?_
      refine z_iload C dL_law_684 0 rfl ?_
      refine z_i2l C dL_law_686 ?_
      refine z_lcmp C dL_law_687 ?_
      refine z_if_eq (tgt := 693) C dL_law_688 (by decide) (fun c9 => ?_) (fun c9 => ?_)
      · have hF := zif hF c9
        refine z_goto (tgt := 1886) C dL_law_693 (by decide) ?_
        exact z_sub C [2, 3, 4, 5, 6] rfl (hk B P M r2.2.1 r2.2.2.1 r2.2.2.2.1 r2.2.2.2.2.1 r2.2.2.2.2.2 r4.2.1 r4.2.2 hF)
      · have hF := zelse hF c9
        refine z_iconst (v := 0) C dL_law_691 (by decide) ?_
        exact absurd (Option.some.inj hF) (by decide)
  · have hF := zelse hF c6
    refine z_iconst (v := 0) C dL_law_674 (by decide) ?_
    exact absurd (Option.some.inj hF) (by decide)
set_option maxHeartbeats 4000000 in
set_option maxRecDepth 100000 in
theorem c_law_7 (l : Launch) (hl : l.stackTraces = false) (D : va_G) (cI cJ cZ : ClassId) (ab ao : Nat) (a5 a3 a6 a1 a0 a8 : Nat → Nat) {p : Program} {e : Env} {s : State} {m : MethodId} {args : Array Value} {below : List Frame} {meth : Method} {c : Code} {A : Nat → Prop} {rt : Option FieldType} {Q : State → Prop} (C : zC p s m args meth c cL_law 8 rt RL wsL_law D (zTy cI cJ cZ) A s.heap) (XE : zE A s s.heap) (XN : zN s) {b sL : Nat} {xs : Nat → Int32} (hX : va_X b sL xs s s.heap) (hbl : b < s.heap.size) (hbA : ¬ A b)
    (cl sl : Nat) (hc1 : cl + 1 ≤ 1096) (hs1 : sl + 6 ≤ 26258) (i : Int32) (k : SS → SS → SS → SS → SS → SS → SL → SL → SS → SL → Option Int32) (hk : ∀ (B : SS) (P : SS) (M : SS) (T : SS) (K : SS) (U : SS) (L : SL) (O : SL) (S : SS) (V : SL), k B P M T K U L O S V = some 1 → zW p l e room_1 s m args below meth c 8 D A s.heap (cl + 1) (sl + 6) Q (zwX7 cI cJ cZ ab a5 a3 a6 a1 a0 B P M T K U L ++ (zwO cJ ao O ++ zwX8 cI cJ cZ a8 S V)) [(0, .ref b), (1, .ref ab), (2, .ref (a8 0)), (3, .ref ao), (4, .int i)] 1886 []) (B : SS) (P : SS) (M : SS) (T : SS) (K : SS) (U : SS) (L : SL) (O : SL) (S : SS) (V : SL)
    (hF : f_law_7 xs sL i k B P M T K U L O S V = some 1) : zW p l e room_1 s m args below meth c 8 D A s.heap cl sl Q (zwX7 cI cJ cZ ab a5 a3 a6 a1 a0 B P M T K U L ++ (zwO cJ ao O ++ zwX8 cI cJ cZ a8 S V)) [(0, .ref b), (1, .ref ab), (2, .ref (a8 0)), (3, .ref ao), (4, .int i)] 696 [] := by
  have hc0 : cl ≤ 1096 := Nat.le_of_succ_le hc1
  have hs0 : sl ≤ 26258 := Nat.le_trans (Nat.le_add_right _ _) hs1
  refine z_aload_n C dL_law_696 rfl 1 rfl ?_
  refine z_aload_n C dL_law_697 rfl 0 rfl ?_
  refine z_iload C dL_law_698 4 rfl ?_
  refine z_iconst (v := 1) C dL_law_700 (by decide) ?_
  refine z_iadd C dL_law_701 ?_
  obtain ⟨g1, hF⟩ := zix_some hF
  refine z_sld C hX hbl hbA g1 dL_law_702 ?_
  refine z_aload_n C dL_law_703 rfl 3 rfl ?_
  obtain ⟨r2, er2, hF⟩ := zbd hF
  refine z_lcallS (n := 3) (As := [.ref ab, .int (xs (i + 1).toNatClampNeg), .ref ao]) (ws' := (zwX7 cI cJ cZ ab a5 a3 a6 a1 a0 B P M r2.2.1 r2.2.2.1 r2.2.2.2.1 r2.2.2.2.2.1 ++ (zwO cJ ao r2.2.2.2.2.2 ++ zwX8 cI cJ cZ a8 S V))) C XE XN (c_L_revokeAlone l hl D cI cJ cZ ab a5 a3 a6 a1 a0 ao B P M T K U L O (xs (i + 1).toNatClampNeg) r2 er2) gL_law_L_revokeAlone rfl (by decide +kernel) ⟨Nat.le_of_ble_eq_true rfl, Nat.le_of_ble_eq_true rfl⟩ ⟨hc1, hs1⟩ [] (zwX8 cI cJ cZ a8 S V) zAs1 zAs2 rfl rfl (Nat.le_of_ble_eq_true rfl) dL_law_704 ?_
  refine z_istore (lv' := [(5, .int r2.1), (0, .ref b), (1, .ref ab), (2, .ref (a8 0)), (3, .ref ao), (4, .int i)]) C dL_law_707 (by decide) rfl ?_
  refine z_aload_n C dL_law_709 rfl 3 rfl ?_
  refine z_aload_n C dL_law_710 rfl 1 rfl ?_
  refine z_iload C dL_law_711 5 rfl ?_
  refine z_iconst (v := 1) C dL_law_713 (by decide) ?_
  refine z_iadd C dL_law_714 ?_
  obtain ⟨g3, hF⟩ := zix_some hF
  refine z_sld C hX hbl hbA g3 dL_law_715 ?_
  obtain ⟨r4, er4, hF⟩ := zbd hF
  refine z_callV (n := 1) (As := [.int (xs (i + 1).toNatClampNeg)]) (ws' := (zwX7 cI cJ cZ ab a5 a3 a6 a1 a0 B P M r2.2.1 r2.2.2.1 r2.2.2.2.1 r2.2.2.2.2.1 ++ (zwO cJ ao r2.2.2.2.2.2 ++ zwX8 cI cJ cZ a8 r4.2.1 r4.2.2))) C (c_X8_revokeAlone l D cI cJ cZ a8 S V (xs (i + 1).toNatClampNeg) r4 er4) gL_law_X8_revokeAlone rfl rfl rfl (by decide +kernel) ⟨Nat.le_of_ble_eq_true rfl, Nat.le_of_ble_eq_true rfl⟩ ⟨hc1, hs1⟩ 31 rfl rfl ((zwX7 cI cJ cZ ab a5 a3 a6 a1 a0 B P M r2.2.1 r2.2.2.1 r2.2.2.2.1 r2.2.2.2.2.1) ++ (zwO cJ ao r2.2.2.2.2.2)) [] zAs3 zAs4 rfl rfl (Nat.le_of_ble_eq_true rfl) dL_law_716 ?_
  refine z_istore (lv' := [(6, .int r4.1), (5, .int r2.1), (0, .ref b), (1, .ref ab), (2, .ref (a8 0)), (3, .ref ao), (4, .int i)]) C dL_law_719 (by decide) rfl ?_
  refine z_aload_n C dL_law_721 rfl 4 rfl ?_
  obtain ⟨r5, er5, hF⟩ := zbd hF
  refine z_callV (n := 0) (As := []) (ws' := (zwX7 cI cJ cZ ab a5 a3 a6 a1 a0 B P M r2.2.1 r2.2.2.1 r2.2.2.2.1 r2.2.2.2.2.1 ++ (zwO cJ ao r2.2.2.2.2.2 ++ zwX8 cI cJ cZ a8 r4.2.1 r4.2.2))) C (c_X8_thrown l D cI cJ cZ a8 r4.2.1 r4.2.2 r5 er5) gL_law_X8_thrown rfl rfl rfl (by decide +kernel) ⟨Nat.le_of_ble_eq_true rfl, Nat.le_of_ble_eq_true rfl⟩ ⟨hc1, hs1⟩ 31 rfl rfl ((zwX7 cI cJ cZ ab a5 a3 a6 a1 a0 B P M r2.2.1 r2.2.2.1 r2.2.2.2.1 r2.2.2.2.2.1) ++ (zwO cJ ao r2.2.2.2.2.2)) [] zAs3 zAs4 rfl rfl (Nat.le_of_ble_eq_true rfl) dL_law_722 ?_
  refine z_iload C dL_law_725 1 rfl ?_
  refine z_icmp_eq (tgt := 732) C dL_law_727 (by decide) (fun c6 => ?_) (fun c6 => ?_)
  · have hF := zif hF c6
    refine z_iload C dL_law_732 1 rfl ?_
    refine z_if_ne (tgt := 749) C dL_law_734 (by decide) (fun c7 => ?_) (fun c7 => ?_)
    · have hF := zelse hF c7
      refine z_goto (tgt := 1886) C dL_law_749 (by decide) ?_
      exact z_sub C [2, 3, 4, 5, 6] rfl (hk B P M r2.2.1 r2.2.2.1 r2.2.2.2.1 r2.2.2.2.2.1 r2.2.2.2.2.2 r4.2.1 r4.2.2 hF)
    · have hF := zif hF c7
      refine z_aload_n C dL_law_737 rfl 5 rfl ?_
      refine z_iconst (v := 0) C dL_law_738 (by decide) ?_
      obtain ⟨g8, hF⟩ := zix_some hF
      refine z_lald (v := (r2.2.2.2.2.2 (0 : Int32).toNatClampNeg)) C g8 30 rfl rfl rfl dL_law_739 ?_
      refine z_iload C dL_law_740 0 rfl ?_
      refine z_i2l C dL_law_742 ?_
      refine z_lcmp C dL_law_743 ?_
      refine z_if_eq (tgt := 749) C dL_law_744 (by decide) (fun c9 => ?_) (fun c9 => ?_)
      · have hF := zif hF c9
        refine z_goto (tgt := 1886) C dL_law_749 (by decide) ?_
        exact z_sub C [2, 3, 4, 5, 6] rfl (hk B P M r2.2.1 r2.2.2.1 r2.2.2.2.1 r2.2.2.2.2.1 r2.2.2.2.2.2 r4.2.1 r4.2.2 hF)
      · have hF := zelse hF c9
        refine z_iconst (v := 0) C dL_law_747 (by decide) ?_
        exact absurd (Option.some.inj hF) (by decide)
  · have hF := zelse hF c6
    refine z_iconst (v := 0) C dL_law_730 (by decide) ?_
    exact absurd (Option.some.inj hF) (by decide)
set_option maxHeartbeats 4000000 in
set_option maxRecDepth 100000 in
theorem c_law_8 (l : Launch) (hl : l.stackTraces = false) (D : va_G) (cI cJ cZ : ClassId) (ab ao : Nat) (a5 a3 a6 a1 a0 a8 : Nat → Nat) {p : Program} {e : Env} {s : State} {m : MethodId} {args : Array Value} {below : List Frame} {meth : Method} {c : Code} {A : Nat → Prop} {rt : Option FieldType} {Q : State → Prop} (C : zC p s m args meth c cL_law 8 rt RL wsL_law D (zTy cI cJ cZ) A s.heap) (XE : zE A s s.heap) (XN : zN s) {b sL : Nat} {xs : Nat → Int32} (hX : va_X b sL xs s s.heap) (hbl : b < s.heap.size) (hbA : ¬ A b)
    (cl sl : Nat) (hc1 : cl + 1 ≤ 1096) (hs1 : sl + 6 ≤ 26258) (i : Int32) (k : SS → SS → SS → SS → SS → SS → SL → SL → SS → SL → Option Int32) (hk : ∀ (B : SS) (P : SS) (M : SS) (T : SS) (K : SS) (U : SS) (L : SL) (O : SL) (S : SS) (V : SL), k B P M T K U L O S V = some 1 → zW p l e room_1 s m args below meth c 8 D A s.heap (cl + 1) (sl + 6) Q (zwX7 cI cJ cZ ab a5 a3 a6 a1 a0 B P M T K U L ++ (zwO cJ ao O ++ zwX8 cI cJ cZ a8 S V)) [(0, .ref b), (1, .ref ab), (2, .ref (a8 0)), (3, .ref ao), (4, .int i)] 1886 []) (B : SS) (P : SS) (M : SS) (T : SS) (K : SS) (U : SS) (L : SL) (O : SL) (S : SS) (V : SL)
    (hF : f_law_8 xs sL i k B P M T K U L O S V = some 1) : zW p l e room_1 s m args below meth c 8 D A s.heap cl sl Q (zwX7 cI cJ cZ ab a5 a3 a6 a1 a0 B P M T K U L ++ (zwO cJ ao O ++ zwX8 cI cJ cZ a8 S V)) [(0, .ref b), (1, .ref ab), (2, .ref (a8 0)), (3, .ref ao), (4, .int i)] 752 [] := by
  have hc0 : cl ≤ 1096 := Nat.le_of_succ_le hc1
  have hs0 : sl ≤ 26258 := Nat.le_trans (Nat.le_add_right _ _) hs1
  refine z_aload_n C dL_law_752 rfl 1 rfl ?_
  refine z_aload_n C dL_law_753 rfl 0 rfl ?_
  refine z_iload C dL_law_754 4 rfl ?_
  refine z_iconst (v := 1) C dL_law_756 (by decide) ?_
  refine z_iadd C dL_law_757 ?_
  obtain ⟨g1, hF⟩ := zix_some hF
  refine z_sld C hX hbl hbA g1 dL_law_758 ?_
  refine z_aload_n C dL_law_759 rfl 3 rfl ?_
  obtain ⟨r2, er2, hF⟩ := zbd hF
  refine z_lcallS (n := 3) (As := [.ref ab, .int (xs (i + 1).toNatClampNeg), .ref ao]) (ws' := (zwX7 cI cJ cZ ab a5 a3 a6 a1 a0 B P M T K U L ++ (zwO cJ ao r2.2 ++ zwX8 cI cJ cZ a8 S V))) C XE XN (c_L_isAlive l hl D cI cJ cZ ab a5 a3 a6 a1 a0 ao B P M T K U L O (xs (i + 1).toNatClampNeg) r2 er2) gL_law_L_isAlive rfl (by decide +kernel) ⟨Nat.le_of_ble_eq_true rfl, Nat.le_of_ble_eq_true rfl⟩ ⟨hc1, hs1⟩ [] (zwX8 cI cJ cZ a8 S V) zAs1 zAs2 rfl rfl (Nat.le_of_ble_eq_true rfl) dL_law_760 ?_
  refine z_istore (lv' := [(5, .int r2.1), (0, .ref b), (1, .ref ab), (2, .ref (a8 0)), (3, .ref ao), (4, .int i)]) C dL_law_763 (by decide) rfl ?_
  refine z_aload_n C dL_law_765 rfl 3 rfl ?_
  refine z_aload_n C dL_law_766 rfl 1 rfl ?_
  refine z_iload C dL_law_767 5 rfl ?_
  refine z_iconst (v := 1) C dL_law_769 (by decide) ?_
  refine z_iadd C dL_law_770 ?_
  obtain ⟨g3, hF⟩ := zix_some hF
  refine z_sld C hX hbl hbA g3 dL_law_771 ?_
  obtain ⟨r4, er4, hF⟩ := zbd hF
  refine z_callV (n := 1) (As := [.int (xs (i + 1).toNatClampNeg)]) (ws' := (zwX7 cI cJ cZ ab a5 a3 a6 a1 a0 B P M T K U L ++ (zwO cJ ao r2.2 ++ zwX8 cI cJ cZ a8 r4.2 V))) C (c_X8_isAlive l D cI cJ cZ a8 S V (xs (i + 1).toNatClampNeg) r4 er4) gL_law_X8_isAlive rfl rfl rfl (by decide +kernel) ⟨Nat.le_of_ble_eq_true rfl, Nat.le_of_ble_eq_true rfl⟩ ⟨hc1, hs1⟩ 31 rfl rfl ((zwX7 cI cJ cZ ab a5 a3 a6 a1 a0 B P M T K U L) ++ (zwO cJ ao r2.2)) [] zAs3 zAs4 rfl rfl (Nat.le_of_ble_eq_true rfl) dL_law_772 ?_
  refine z_istore (lv' := [(6, .int r4.1), (5, .int r2.1), (0, .ref b), (1, .ref ab), (2, .ref (a8 0)), (3, .ref ao), (4, .int i)]) C dL_law_775 (by decide) rfl ?_
  refine z_aload_n C dL_law_777 rfl 4 rfl ?_
  obtain ⟨r5, er5, hF⟩ := zbd hF
  refine z_callV (n := 0) (As := []) (ws' := (zwX7 cI cJ cZ ab a5 a3 a6 a1 a0 B P M T K U L ++ (zwO cJ ao r2.2 ++ zwX8 cI cJ cZ a8 r4.2 V))) C (c_X8_thrown l D cI cJ cZ a8 r4.2 V r5 er5) gL_law_X8_thrown rfl rfl rfl (by decide +kernel) ⟨Nat.le_of_ble_eq_true rfl, Nat.le_of_ble_eq_true rfl⟩ ⟨hc1, hs1⟩ 31 rfl rfl ((zwX7 cI cJ cZ ab a5 a3 a6 a1 a0 B P M T K U L) ++ (zwO cJ ao r2.2)) [] zAs3 zAs4 rfl rfl (Nat.le_of_ble_eq_true rfl) dL_law_778 ?_
  refine z_iload C dL_law_781 1 rfl ?_
  refine z_icmp_eq (tgt := 788) C dL_law_783 (by decide) (fun c6 => ?_) (fun c6 => ?_)
  · have hF := zif hF c6
    refine z_iload C dL_law_788 1 rfl ?_
    refine z_if_ne (tgt := 812) C dL_law_790 (by decide) (fun c7 => ?_) (fun c7 => ?_)
    · have hF := zelse hF c7
      refine z_goto (tgt := 1886) C dL_law_812 (by decide) ?_
      exact z_sub C [2, 3, 4, 5, 6] rfl (hk B P M T K U L r2.2 r4.2 V hF)
    · have hF := zif hF c7
      refine z_aload_n C dL_law_793 rfl 5 rfl ?_
      refine z_iconst (v := 0) C dL_law_794 (by decide) ?_
      obtain ⟨g8, hF⟩ := zix_some hF
      refine z_lald (v := (r2.2 (0 : Int32).toNatClampNeg)) C g8 30 rfl rfl rfl dL_law_795 ?_
      refine z_iload C dL_law_796 0 rfl ?_
      refine z_if_eq (tgt := 805) C dL_law_798 (by decide) (fun c9 => ?_) (fun c9 => ?_)
      · have hF := zif hF c9
        refine z_lconst (v := 0) C dL_law_805 (by decide) ?_
        refine z_lcmp C dL_law_806 ?_
        refine z_if_eq (tgt := 812) C dL_law_807 (by decide) (fun c10 => ?_) (fun c10 => ?_)
        · have hF := zif hF c10
          refine z_goto (tgt := 1886) C dL_law_812 (by decide) ?_
          exact z_sub C [2, 3, 4, 5, 6] rfl (hk B P M T K U L r2.2 r4.2 V hF)
        · have hF := zelse hF c10
          refine z_iconst (v := 0) C dL_law_810 (by decide) ?_
          exact absurd (Option.some.inj hF) (by decide)
      · have hF := zelse hF c9
        refine z_lconst (v := 1) C dL_law_801 (by decide) ?_
        refine z_goto (tgt := 806) C dL_law_802 (by decide) ?_
        refine z_lcmp C dL_law_806 ?_
        refine z_if_eq (tgt := 812) C dL_law_807 (by decide) (fun c11 => ?_) (fun c11 => ?_)
        · have hF := zif hF c11
          refine z_goto (tgt := 1886) C dL_law_812 (by decide) ?_
          exact z_sub C [2, 3, 4, 5, 6] rfl (hk B P M T K U L r2.2 r4.2 V hF)
        · have hF := zelse hF c11
          refine z_iconst (v := 0) C dL_law_810 (by decide) ?_
          exact absurd (Option.some.inj hF) (by decide)
  · have hF := zelse hF c6
    refine z_iconst (v := 0) C dL_law_786 (by decide) ?_
    exact absurd (Option.some.inj hF) (by decide)
set_option maxHeartbeats 4000000 in
set_option maxRecDepth 100000 in
theorem c_law_9 (l : Launch) (hl : l.stackTraces = false) (D : va_G) (cI cJ cZ : ClassId) (ab ao : Nat) (a5 a3 a6 a1 a0 a8 : Nat → Nat) {p : Program} {e : Env} {s : State} {m : MethodId} {args : Array Value} {below : List Frame} {meth : Method} {c : Code} {A : Nat → Prop} {rt : Option FieldType} {Q : State → Prop} (C : zC p s m args meth c cL_law 8 rt RL wsL_law D (zTy cI cJ cZ) A s.heap) (XE : zE A s s.heap) (XN : zN s) {b sL : Nat} {xs : Nat → Int32} (hX : va_X b sL xs s s.heap) (hbl : b < s.heap.size) (hbA : ¬ A b)
    (cl sl : Nat) (hc1 : cl + 1 ≤ 1096) (hs1 : sl + 6 ≤ 26258) (i : Int32) (k : SS → SS → SS → SS → SS → SS → SL → SL → SS → SL → Option Int32) (hk : ∀ (B : SS) (P : SS) (M : SS) (T : SS) (K : SS) (U : SS) (L : SL) (O : SL) (S : SS) (V : SL), k B P M T K U L O S V = some 1 → zW p l e room_1 s m args below meth c 8 D A s.heap (cl + 1) (sl + 6) Q (zwX7 cI cJ cZ ab a5 a3 a6 a1 a0 B P M T K U L ++ (zwO cJ ao O ++ zwX8 cI cJ cZ a8 S V)) [(0, .ref b), (1, .ref ab), (2, .ref (a8 0)), (3, .ref ao), (4, .int i)] 1886 []) (B : SS) (P : SS) (M : SS) (T : SS) (K : SS) (U : SS) (L : SL) (O : SL) (S : SS) (V : SL)
    (hF : f_law_9 xs sL i k B P M T K U L O S V = some 1) : zW p l e room_1 s m args below meth c 8 D A s.heap cl sl Q (zwX7 cI cJ cZ ab a5 a3 a6 a1 a0 B P M T K U L ++ (zwO cJ ao O ++ zwX8 cI cJ cZ a8 S V)) [(0, .ref b), (1, .ref ab), (2, .ref (a8 0)), (3, .ref ao), (4, .int i)] 815 [] := by
  have hc0 : cl ≤ 1096 := Nat.le_of_succ_le hc1
  have hs0 : sl ≤ 26258 := Nat.le_trans (Nat.le_add_right _ _) hs1
  refine z_aload_n C dL_law_815 rfl 1 rfl ?_
  refine z_aload_n C dL_law_816 rfl 0 rfl ?_
  refine z_iload C dL_law_817 4 rfl ?_
  refine z_iconst (v := 1) C dL_law_819 (by decide) ?_
  refine z_iadd C dL_law_820 ?_
  obtain ⟨g1, hF⟩ := zix_some hF
  refine z_sld C hX hbl hbA g1 dL_law_821 ?_
  refine z_aload_n C dL_law_822 rfl 3 rfl ?_
  obtain ⟨r2, er2, hF⟩ := zbd hF
  refine z_lcallS (n := 3) (As := [.ref ab, .int (xs (i + 1).toNatClampNeg), .ref ao]) (ws' := (zwX7 cI cJ cZ ab a5 a3 a6 a1 a0 B P M T K U L ++ (zwO cJ ao r2.2 ++ zwX8 cI cJ cZ a8 S V))) C XE XN (c_L_parentOf l hl D cI cJ cZ ab a5 a3 a6 a1 a0 ao B P M T K U L O (xs (i + 1).toNatClampNeg) r2 er2) gL_law_L_parentOf rfl (by decide +kernel) ⟨Nat.le_of_ble_eq_true rfl, Nat.le_of_ble_eq_true rfl⟩ ⟨hc1, hs1⟩ [] (zwX8 cI cJ cZ a8 S V) zAs1 zAs2 rfl rfl (Nat.le_of_ble_eq_true rfl) dL_law_823 ?_
  refine z_istore (lv' := [(5, .int r2.1), (0, .ref b), (1, .ref ab), (2, .ref (a8 0)), (3, .ref ao), (4, .int i)]) C dL_law_826 (by decide) rfl ?_
  refine z_aload_n C dL_law_828 rfl 3 rfl ?_
  refine z_aload_n C dL_law_829 rfl 1 rfl ?_
  refine z_iload C dL_law_830 5 rfl ?_
  refine z_iconst (v := 1) C dL_law_832 (by decide) ?_
  refine z_iadd C dL_law_833 ?_
  obtain ⟨g3, hF⟩ := zix_some hF
  refine z_sld C hX hbl hbA g3 dL_law_834 ?_
  obtain ⟨r4, er4, hF⟩ := zbd hF
  refine z_callV (n := 1) (As := [.int (xs (i + 1).toNatClampNeg)]) (ws' := (zwX7 cI cJ cZ ab a5 a3 a6 a1 a0 B P M T K U L ++ (zwO cJ ao r2.2 ++ zwX8 cI cJ cZ a8 r4.2 V))) C (c_X8_parentOf l D cI cJ cZ a8 S V (xs (i + 1).toNatClampNeg) r4 er4) gL_law_X8_parentOf rfl rfl rfl (by decide +kernel) ⟨Nat.le_of_ble_eq_true rfl, Nat.le_of_ble_eq_true rfl⟩ ⟨hc1, hs1⟩ 31 rfl rfl ((zwX7 cI cJ cZ ab a5 a3 a6 a1 a0 B P M T K U L) ++ (zwO cJ ao r2.2)) [] zAs3 zAs4 rfl rfl (Nat.le_of_ble_eq_true rfl) dL_law_835 ?_
  refine z_istore (lv' := [(6, .int r4.1), (5, .int r2.1), (0, .ref b), (1, .ref ab), (2, .ref (a8 0)), (3, .ref ao), (4, .int i)]) C dL_law_838 (by decide) rfl ?_
  refine z_aload_n C dL_law_840 rfl 4 rfl ?_
  obtain ⟨r5, er5, hF⟩ := zbd hF
  refine z_callV (n := 0) (As := []) (ws' := (zwX7 cI cJ cZ ab a5 a3 a6 a1 a0 B P M T K U L ++ (zwO cJ ao r2.2 ++ zwX8 cI cJ cZ a8 r4.2 V))) C (c_X8_thrown l D cI cJ cZ a8 r4.2 V r5 er5) gL_law_X8_thrown rfl rfl rfl (by decide +kernel) ⟨Nat.le_of_ble_eq_true rfl, Nat.le_of_ble_eq_true rfl⟩ ⟨hc1, hs1⟩ 31 rfl rfl ((zwX7 cI cJ cZ ab a5 a3 a6 a1 a0 B P M T K U L) ++ (zwO cJ ao r2.2)) [] zAs3 zAs4 rfl rfl (Nat.le_of_ble_eq_true rfl) dL_law_841 ?_
  refine z_iload C dL_law_844 1 rfl ?_
  refine z_icmp_eq (tgt := 851) C dL_law_846 (by decide) (fun c6 => ?_) (fun c6 => ?_)
  · have hF := zif hF c6
    refine z_iload C dL_law_851 1 rfl ?_
    refine z_if_ne (tgt := 868) C dL_law_853 (by decide) (fun c7 => ?_) (fun c7 => ?_)
    · have hF := zelse hF c7
      refine z_goto (tgt := 1886) C dL_law_868 (by decide) ?_
      exact z_sub C [2, 3, 4, 5, 6] rfl (hk B P M T K U L r2.2 r4.2 V hF)
    · have hF := zif hF c7
      refine z_aload_n C dL_law_856 rfl 5 rfl ?_
      refine z_iconst (v := 0) C dL_law_857 (by decide) ?_
      obtain ⟨g8, hF⟩ := zix_some hF
      refine z_lald (v := (r2.2 (0 : Int32).toNatClampNeg)) C g8 30 rfl rfl rfl dL_law_858 ?_
      refine z_iload C dL_law_859 0 rfl ?_
      refine z_i2l C dL_law_861 ?_
      refine z_lcmp C dL_law_862 ?_
      refine z_if_eq (tgt := 868) C dL_law_863 (by decide) (fun c9 => ?_) (fun c9 => ?_)
      · have hF := zif hF c9
        refine z_goto (tgt := 1886) C dL_law_868 (by decide) ?_
        exact z_sub C [2, 3, 4, 5, 6] rfl (hk B P M T K U L r2.2 r4.2 V hF)
      · have hF := zelse hF c9
        refine z_iconst (v := 0) C dL_law_866 (by decide) ?_
        exact absurd (Option.some.inj hF) (by decide)
  · have hF := zelse hF c6
    refine z_iconst (v := 0) C dL_law_849 (by decide) ?_
    exact absurd (Option.some.inj hF) (by decide)
set_option maxHeartbeats 4000000 in
set_option maxRecDepth 100000 in
theorem c_law_10 (l : Launch) (hl : l.stackTraces = false) (D : va_G) (cI cJ cZ : ClassId) (ab ao : Nat) (a5 a3 a6 a1 a0 a8 : Nat → Nat) {p : Program} {e : Env} {s : State} {m : MethodId} {args : Array Value} {below : List Frame} {meth : Method} {c : Code} {A : Nat → Prop} {rt : Option FieldType} {Q : State → Prop} (C : zC p s m args meth c cL_law 8 rt RL wsL_law D (zTy cI cJ cZ) A s.heap) (XE : zE A s s.heap) (XN : zN s) {b sL : Nat} {xs : Nat → Int32} (hX : va_X b sL xs s s.heap) (hbl : b < s.heap.size) (hbA : ¬ A b)
    (cl sl : Nat) (hc1 : cl + 1 ≤ 1096) (hs1 : sl + 6 ≤ 26258) (i : Int32) (k : SS → SS → SS → SS → SS → SS → SL → SL → SS → SL → Option Int32) (hk : ∀ (B : SS) (P : SS) (M : SS) (T : SS) (K : SS) (U : SS) (L : SL) (O : SL) (S : SS) (V : SL), k B P M T K U L O S V = some 1 → zW p l e room_1 s m args below meth c 8 D A s.heap (cl + 1) (sl + 6) Q (zwX7 cI cJ cZ ab a5 a3 a6 a1 a0 B P M T K U L ++ (zwO cJ ao O ++ zwX8 cI cJ cZ a8 S V)) [(0, .ref b), (1, .ref ab), (2, .ref (a8 0)), (3, .ref ao), (4, .int i)] 1886 []) (B : SS) (P : SS) (M : SS) (T : SS) (K : SS) (U : SS) (L : SL) (O : SL) (S : SS) (V : SL)
    (hF : f_law_10 xs sL i k B P M T K U L O S V = some 1) : zW p l e room_1 s m args below meth c 8 D A s.heap cl sl Q (zwX7 cI cJ cZ ab a5 a3 a6 a1 a0 B P M T K U L ++ (zwO cJ ao O ++ zwX8 cI cJ cZ a8 S V)) [(0, .ref b), (1, .ref ab), (2, .ref (a8 0)), (3, .ref ao), (4, .int i)] 871 [] := by
  have hc0 : cl ≤ 1096 := Nat.le_of_succ_le hc1
  have hs0 : sl ≤ 26258 := Nat.le_trans (Nat.le_add_right _ _) hs1
  refine z_aload_n C dL_law_871 rfl 1 rfl ?_
  refine z_aload_n C dL_law_872 rfl 0 rfl ?_
  refine z_iload C dL_law_873 4 rfl ?_
  refine z_iconst (v := 1) C dL_law_875 (by decide) ?_
  refine z_iadd C dL_law_876 ?_
  obtain ⟨g1, hF⟩ := zix_some hF
  refine z_sld C hX hbl hbA g1 dL_law_877 ?_
  refine z_aload_n C dL_law_878 rfl 3 rfl ?_
  obtain ⟨r2, er2, hF⟩ := zbd hF
  refine z_lcallS (n := 3) (As := [.ref ab, .int (xs (i + 1).toNatClampNeg), .ref ao]) (ws' := (zwX7 cI cJ cZ ab a5 a3 a6 a1 a0 B P M T K U L ++ (zwO cJ ao r2.2 ++ zwX8 cI cJ cZ a8 S V))) C XE XN (c_L_endOf l hl D cI cJ cZ ab a5 a3 a6 a1 a0 ao B P M T K U L O (xs (i + 1).toNatClampNeg) r2 er2) gL_law_L_endOf rfl (by decide +kernel) ⟨Nat.le_of_ble_eq_true rfl, Nat.le_of_ble_eq_true rfl⟩ ⟨hc1, hs1⟩ [] (zwX8 cI cJ cZ a8 S V) zAs1 zAs2 rfl rfl (Nat.le_of_ble_eq_true rfl) dL_law_879 ?_
  refine z_istore (lv' := [(5, .int r2.1), (0, .ref b), (1, .ref ab), (2, .ref (a8 0)), (3, .ref ao), (4, .int i)]) C dL_law_882 (by decide) rfl ?_
  refine z_aload_n C dL_law_884 rfl 3 rfl ?_
  refine z_aload_n C dL_law_885 rfl 1 rfl ?_
  refine z_iload C dL_law_886 5 rfl ?_
  refine z_iconst (v := 1) C dL_law_888 (by decide) ?_
  refine z_iadd C dL_law_889 ?_
  obtain ⟨g3, hF⟩ := zix_some hF
  refine z_sld C hX hbl hbA g3 dL_law_890 ?_
  obtain ⟨r4, er4, hF⟩ := zbd hF
  refine z_callV (n := 1) (As := [.int (xs (i + 1).toNatClampNeg)]) (ws' := (zwX7 cI cJ cZ ab a5 a3 a6 a1 a0 B P M T K U L ++ (zwO cJ ao r2.2 ++ zwX8 cI cJ cZ a8 r4.2 V))) C (c_X8_endOf l D cI cJ cZ a8 S V (xs (i + 1).toNatClampNeg) r4 er4) gL_law_X8_endOf rfl rfl rfl (by decide +kernel) ⟨Nat.le_of_ble_eq_true rfl, Nat.le_of_ble_eq_true rfl⟩ ⟨hc1, hs1⟩ 31 rfl rfl ((zwX7 cI cJ cZ ab a5 a3 a6 a1 a0 B P M T K U L) ++ (zwO cJ ao r2.2)) [] zAs3 zAs4 rfl rfl (Nat.le_of_ble_eq_true rfl) dL_law_891 ?_
  refine z_istore (lv' := [(6, .int r4.1), (5, .int r2.1), (0, .ref b), (1, .ref ab), (2, .ref (a8 0)), (3, .ref ao), (4, .int i)]) C dL_law_894 (by decide) rfl ?_
  refine z_aload_n C dL_law_896 rfl 4 rfl ?_
  obtain ⟨r5, er5, hF⟩ := zbd hF
  refine z_callV (n := 0) (As := []) (ws' := (zwX7 cI cJ cZ ab a5 a3 a6 a1 a0 B P M T K U L ++ (zwO cJ ao r2.2 ++ zwX8 cI cJ cZ a8 r4.2 V))) C (c_X8_thrown l D cI cJ cZ a8 r4.2 V r5 er5) gL_law_X8_thrown rfl rfl rfl (by decide +kernel) ⟨Nat.le_of_ble_eq_true rfl, Nat.le_of_ble_eq_true rfl⟩ ⟨hc1, hs1⟩ 31 rfl rfl ((zwX7 cI cJ cZ ab a5 a3 a6 a1 a0 B P M T K U L) ++ (zwO cJ ao r2.2)) [] zAs3 zAs4 rfl rfl (Nat.le_of_ble_eq_true rfl) dL_law_897 ?_
  refine z_iload C dL_law_900 1 rfl ?_
  refine z_icmp_eq (tgt := 907) C dL_law_902 (by decide) (fun c6 => ?_) (fun c6 => ?_)
  · have hF := zif hF c6
    refine z_iload C dL_law_907 1 rfl ?_
    refine z_if_ne (tgt := 924) C dL_law_909 (by decide) (fun c7 => ?_) (fun c7 => ?_)
    · have hF := zelse hF c7
      refine z_goto (tgt := 1886) C dL_law_924 (by decide) ?_
      exact z_sub C [2, 3, 4, 5, 6] rfl (hk B P M T K U L r2.2 r4.2 V hF)
    · have hF := zif hF c7
      refine z_aload_n C dL_law_912 rfl 5 rfl ?_
      refine z_iconst (v := 0) C dL_law_913 (by decide) ?_
      obtain ⟨g8, hF⟩ := zix_some hF
      refine z_lald (v := (r2.2 (0 : Int32).toNatClampNeg)) C g8 30 rfl rfl rfl dL_law_914 ?_
      refine z_iload C dL_law_915 0 rfl ?_
      refine z_i2l C dL_law_917 ?_
      refine z_lcmp C dL_law_918 ?_
      refine z_if_eq (tgt := 924) C dL_law_919 (by decide) (fun c9 => ?_) (fun c9 => ?_)
      · have hF := zif hF c9
        refine z_goto (tgt := 1886) C dL_law_924 (by decide) ?_
        exact z_sub C [2, 3, 4, 5, 6] rfl (hk B P M T K U L r2.2 r4.2 V hF)
      · have hF := zelse hF c9
        refine z_iconst (v := 0) C dL_law_922 (by decide) ?_
        exact absurd (Option.some.inj hF) (by decide)
  · have hF := zelse hF c6
    refine z_iconst (v := 0) C dL_law_905 (by decide) ?_
    exact absurd (Option.some.inj hF) (by decide)
set_option maxHeartbeats 4000000 in
set_option maxRecDepth 100000 in
theorem c_law_11 (l : Launch) (hl : l.stackTraces = false) (D : va_G) (cI cJ cZ : ClassId) (ab ao : Nat) (a5 a3 a6 a1 a0 a8 : Nat → Nat) {p : Program} {e : Env} {s : State} {m : MethodId} {args : Array Value} {below : List Frame} {meth : Method} {c : Code} {A : Nat → Prop} {rt : Option FieldType} {Q : State → Prop} (C : zC p s m args meth c cL_law 8 rt RL wsL_law D (zTy cI cJ cZ) A s.heap) (XE : zE A s s.heap) (XN : zN s) {b sL : Nat} {xs : Nat → Int32} (hX : va_X b sL xs s s.heap) (hbl : b < s.heap.size) (hbA : ¬ A b)
    (cl sl : Nat) (hc1 : cl + 1 ≤ 1096) (hs1 : sl + 6 ≤ 26258) (i : Int32) (k : SS → SS → SS → SS → SS → SS → SL → SL → SS → SL → Option Int32) (hk : ∀ (B : SS) (P : SS) (M : SS) (T : SS) (K : SS) (U : SS) (L : SL) (O : SL) (S : SS) (V : SL), k B P M T K U L O S V = some 1 → zW p l e room_1 s m args below meth c 8 D A s.heap (cl + 1) (sl + 6) Q (zwX7 cI cJ cZ ab a5 a3 a6 a1 a0 B P M T K U L ++ (zwO cJ ao O ++ zwX8 cI cJ cZ a8 S V)) [(0, .ref b), (1, .ref ab), (2, .ref (a8 0)), (3, .ref ao), (4, .int i)] 1886 []) (B : SS) (P : SS) (M : SS) (T : SS) (K : SS) (U : SS) (L : SL) (O : SL) (S : SS) (V : SL)
    (hF : f_law_11 xs sL i k B P M T K U L O S V = some 1) : zW p l e room_1 s m args below meth c 8 D A s.heap cl sl Q (zwX7 cI cJ cZ ab a5 a3 a6 a1 a0 B P M T K U L ++ (zwO cJ ao O ++ zwX8 cI cJ cZ a8 S V)) [(0, .ref b), (1, .ref ab), (2, .ref (a8 0)), (3, .ref ao), (4, .int i)] 927 [] := by
  have hc0 : cl ≤ 1096 := Nat.le_of_succ_le hc1
  have hs0 : sl ≤ 26258 := Nat.le_trans (Nat.le_add_right _ _) hs1
  refine z_aload_n C dL_law_927 rfl 1 rfl ?_
  refine z_aload_n C dL_law_928 rfl 0 rfl ?_
  refine z_iload C dL_law_929 4 rfl ?_
  refine z_iconst (v := 1) C dL_law_931 (by decide) ?_
  refine z_iadd C dL_law_932 ?_
  obtain ⟨g1, hF⟩ := zix_some hF
  refine z_sld C hX hbl hbA g1 dL_law_933 ?_
  refine z_aload_n C dL_law_934 rfl 3 rfl ?_
  obtain ⟨r2, er2, hF⟩ := zbd hF
  refine z_lcallS (n := 3) (As := [.ref ab, .int (xs (i + 1).toNatClampNeg), .ref ao]) (ws' := (zwX7 cI cJ cZ ab a5 a3 a6 a1 a0 B P M T K U L ++ (zwO cJ ao r2.2 ++ zwX8 cI cJ cZ a8 S V))) C XE XN (c_L_usesLeft l hl D cI cJ cZ ab a5 a3 a6 a1 a0 ao B P M T K U L O (xs (i + 1).toNatClampNeg) r2 er2) gL_law_L_usesLeft rfl (by decide +kernel) ⟨Nat.le_of_ble_eq_true rfl, Nat.le_of_ble_eq_true rfl⟩ ⟨hc1, hs1⟩ [] (zwX8 cI cJ cZ a8 S V) zAs1 zAs2 rfl rfl (Nat.le_of_ble_eq_true rfl) dL_law_935 ?_
  refine z_istore (lv' := [(5, .int r2.1), (0, .ref b), (1, .ref ab), (2, .ref (a8 0)), (3, .ref ao), (4, .int i)]) C dL_law_938 (by decide) rfl ?_
  refine z_aload_n C dL_law_940 rfl 3 rfl ?_
  refine z_aload_n C dL_law_941 rfl 1 rfl ?_
  refine z_iload C dL_law_942 5 rfl ?_
  refine z_iconst (v := 1) C dL_law_944 (by decide) ?_
  refine z_iadd C dL_law_945 ?_
  obtain ⟨g3, hF⟩ := zix_some hF
  refine z_sld C hX hbl hbA g3 dL_law_946 ?_
  obtain ⟨r4, er4, hF⟩ := zbd hF
  refine z_callV (n := 1) (As := [.int (xs (i + 1).toNatClampNeg)]) (ws' := (zwX7 cI cJ cZ ab a5 a3 a6 a1 a0 B P M T K U L ++ (zwO cJ ao r2.2 ++ zwX8 cI cJ cZ a8 r4.2 V))) C (c_X8_usesLeft l D cI cJ cZ a8 S V (xs (i + 1).toNatClampNeg) r4 er4) gL_law_X8_usesLeft rfl rfl rfl (by decide +kernel) ⟨Nat.le_of_ble_eq_true rfl, Nat.le_of_ble_eq_true rfl⟩ ⟨hc1, hs1⟩ 31 rfl rfl ((zwX7 cI cJ cZ ab a5 a3 a6 a1 a0 B P M T K U L) ++ (zwO cJ ao r2.2)) [] zAs3 zAs4 rfl rfl (Nat.le_of_ble_eq_true rfl) dL_law_947 ?_
  refine z_istore (lv' := [(6, .int r4.1), (5, .int r2.1), (0, .ref b), (1, .ref ab), (2, .ref (a8 0)), (3, .ref ao), (4, .int i)]) C dL_law_950 (by decide) rfl ?_
  refine z_aload_n C dL_law_952 rfl 4 rfl ?_
  obtain ⟨r5, er5, hF⟩ := zbd hF
  refine z_callV (n := 0) (As := []) (ws' := (zwX7 cI cJ cZ ab a5 a3 a6 a1 a0 B P M T K U L ++ (zwO cJ ao r2.2 ++ zwX8 cI cJ cZ a8 r4.2 V))) C (c_X8_thrown l D cI cJ cZ a8 r4.2 V r5 er5) gL_law_X8_thrown rfl rfl rfl (by decide +kernel) ⟨Nat.le_of_ble_eq_true rfl, Nat.le_of_ble_eq_true rfl⟩ ⟨hc1, hs1⟩ 31 rfl rfl ((zwX7 cI cJ cZ ab a5 a3 a6 a1 a0 B P M T K U L) ++ (zwO cJ ao r2.2)) [] zAs3 zAs4 rfl rfl (Nat.le_of_ble_eq_true rfl) dL_law_953 ?_
  refine z_iload C dL_law_956 1 rfl ?_
  refine z_icmp_eq (tgt := 963) C dL_law_958 (by decide) (fun c6 => ?_) (fun c6 => ?_)
  · have hF := zif hF c6
    refine z_iload C dL_law_963 1 rfl ?_
    refine z_if_ne (tgt := 980) C dL_law_965 (by decide) (fun c7 => ?_) (fun c7 => ?_)
    · have hF := zelse hF c7
      refine z_goto (tgt := 1886) C dL_law_980 (by decide) ?_
      exact z_sub C [2, 3, 4, 5, 6] rfl (hk B P M T K U L r2.2 r4.2 V hF)
    · have hF := zif hF c7
      refine z_aload_n C dL_law_968 rfl 5 rfl ?_
      refine z_iconst (v := 0) C dL_law_969 (by decide) ?_
      obtain ⟨g8, hF⟩ := zix_some hF
      refine z_lald (v := (r2.2 (0 : Int32).toNatClampNeg)) C g8 30 rfl rfl rfl dL_law_970 ?_
      refine z_iload C dL_law_971 0 rfl ?_
      refine z_i2l C dL_law_973 ?_
      refine z_lcmp C dL_law_974 ?_
      refine z_if_eq (tgt := 980) C dL_law_975 (by decide) (fun c9 => ?_) (fun c9 => ?_)
      · have hF := zif hF c9
        refine z_goto (tgt := 1886) C dL_law_980 (by decide) ?_
        exact z_sub C [2, 3, 4, 5, 6] rfl (hk B P M T K U L r2.2 r4.2 V hF)
      · have hF := zelse hF c9
        refine z_iconst (v := 0) C dL_law_978 (by decide) ?_
        exact absurd (Option.some.inj hF) (by decide)
  · have hF := zelse hF c6
    refine z_iconst (v := 0) C dL_law_961 (by decide) ?_
    exact absurd (Option.some.inj hF) (by decide)
set_option maxHeartbeats 4000000 in
set_option maxRecDepth 100000 in
theorem c_law_12 (l : Launch) (hl : l.stackTraces = false) (D : va_G) (cI cJ cZ : ClassId) (ab ao : Nat) (a5 a3 a6 a1 a0 a8 : Nat → Nat) {p : Program} {e : Env} {s : State} {m : MethodId} {args : Array Value} {below : List Frame} {meth : Method} {c : Code} {A : Nat → Prop} {rt : Option FieldType} {Q : State → Prop} (C : zC p s m args meth c cL_law 8 rt RL wsL_law D (zTy cI cJ cZ) A s.heap) (XE : zE A s s.heap) (XN : zN s) {b sL : Nat} {xs : Nat → Int32} (hX : va_X b sL xs s s.heap) (hbl : b < s.heap.size) (hbA : ¬ A b)
    (cl sl : Nat) (hc1 : cl + 1 ≤ 1096) (hs1 : sl + 6 ≤ 26258) (i : Int32) (k : SS → SS → SS → SS → SS → SS → SL → SL → SS → SL → Option Int32) (hk : ∀ (B : SS) (P : SS) (M : SS) (T : SS) (K : SS) (U : SS) (L : SL) (O : SL) (S : SS) (V : SL), k B P M T K U L O S V = some 1 → zW p l e room_1 s m args below meth c 8 D A s.heap (cl + 1) (sl + 6) Q (zwX7 cI cJ cZ ab a5 a3 a6 a1 a0 B P M T K U L ++ (zwO cJ ao O ++ zwX8 cI cJ cZ a8 S V)) [(0, .ref b), (1, .ref ab), (2, .ref (a8 0)), (3, .ref ao), (4, .int i)] 1886 []) (B : SS) (P : SS) (M : SS) (T : SS) (K : SS) (U : SS) (L : SL) (O : SL) (S : SS) (V : SL)
    (hF : f_law_12 xs sL i k B P M T K U L O S V = some 1) : zW p l e room_1 s m args below meth c 8 D A s.heap cl sl Q (zwX7 cI cJ cZ ab a5 a3 a6 a1 a0 B P M T K U L ++ (zwO cJ ao O ++ zwX8 cI cJ cZ a8 S V)) [(0, .ref b), (1, .ref ab), (2, .ref (a8 0)), (3, .ref ao), (4, .int i)] 983 [] := by
  have hc0 : cl ≤ 1096 := Nat.le_of_succ_le hc1
  have hs0 : sl ≤ 26258 := Nat.le_trans (Nat.le_add_right _ _) hs1
  refine z_aload_n C dL_law_983 rfl 1 rfl ?_
  refine z_aload_n C dL_law_984 rfl 0 rfl ?_
  refine z_iload C dL_law_985 4 rfl ?_
  refine z_iconst (v := 1) C dL_law_987 (by decide) ?_
  refine z_iadd C dL_law_988 ?_
  obtain ⟨g1, hF⟩ := zix_some hF
  refine z_sld C hX hbl hbA g1 dL_law_989 ?_
  refine z_aload_n C dL_law_990 rfl 3 rfl ?_
  obtain ⟨r2, er2, hF⟩ := zbd hF
  refine z_lcallS (n := 3) (As := [.ref ab, .int (xs (i + 1).toNatClampNeg), .ref ao]) (ws' := (zwX7 cI cJ cZ ab a5 a3 a6 a1 a0 B P M T K U L ++ (zwO cJ ao r2.2 ++ zwX8 cI cJ cZ a8 S V))) C XE XN (c_L_below l hl D cI cJ cZ ab a5 a3 a6 a1 a0 ao B P M T K U L O (xs (i + 1).toNatClampNeg) r2 er2) gL_law_L_below rfl (by decide +kernel) ⟨Nat.le_of_ble_eq_true rfl, Nat.le_of_ble_eq_true rfl⟩ ⟨hc1, hs1⟩ [] (zwX8 cI cJ cZ a8 S V) zAs1 zAs2 rfl rfl (Nat.le_of_ble_eq_true rfl) dL_law_991 ?_
  refine z_istore (lv' := [(5, .int r2.1), (0, .ref b), (1, .ref ab), (2, .ref (a8 0)), (3, .ref ao), (4, .int i)]) C dL_law_994 (by decide) rfl ?_
  refine z_aload_n C dL_law_996 rfl 3 rfl ?_
  refine z_aload_n C dL_law_997 rfl 1 rfl ?_
  refine z_iload C dL_law_998 5 rfl ?_
  refine z_iconst (v := 1) C dL_law_1000 (by decide) ?_
  refine z_iadd C dL_law_1001 ?_
  obtain ⟨g3, hF⟩ := zix_some hF
  refine z_sld C hX hbl hbA g3 dL_law_1002 ?_
  obtain ⟨r4, er4, hF⟩ := zbd hF
  refine z_callV (n := 1) (As := [.int (xs (i + 1).toNatClampNeg)]) (ws' := (zwX7 cI cJ cZ ab a5 a3 a6 a1 a0 B P M T K U L ++ (zwO cJ ao r2.2 ++ zwX8 cI cJ cZ a8 r4.2 V))) C (c_X8_below l D cI cJ cZ a8 S V (xs (i + 1).toNatClampNeg) r4 er4) gL_law_X8_below rfl rfl rfl (by decide +kernel) ⟨Nat.le_of_ble_eq_true rfl, Nat.le_of_ble_eq_true rfl⟩ ⟨hc1, hs1⟩ 31 rfl rfl ((zwX7 cI cJ cZ ab a5 a3 a6 a1 a0 B P M T K U L) ++ (zwO cJ ao r2.2)) [] zAs3 zAs4 rfl rfl (Nat.le_of_ble_eq_true rfl) dL_law_1003 ?_
  refine z_istore (lv' := [(6, .int r4.1), (5, .int r2.1), (0, .ref b), (1, .ref ab), (2, .ref (a8 0)), (3, .ref ao), (4, .int i)]) C dL_law_1006 (by decide) rfl ?_
  refine z_aload_n C dL_law_1008 rfl 4 rfl ?_
  obtain ⟨r5, er5, hF⟩ := zbd hF
  refine z_callV (n := 0) (As := []) (ws' := (zwX7 cI cJ cZ ab a5 a3 a6 a1 a0 B P M T K U L ++ (zwO cJ ao r2.2 ++ zwX8 cI cJ cZ a8 r4.2 V))) C (c_X8_thrown l D cI cJ cZ a8 r4.2 V r5 er5) gL_law_X8_thrown rfl rfl rfl (by decide +kernel) ⟨Nat.le_of_ble_eq_true rfl, Nat.le_of_ble_eq_true rfl⟩ ⟨hc1, hs1⟩ 31 rfl rfl ((zwX7 cI cJ cZ ab a5 a3 a6 a1 a0 B P M T K U L) ++ (zwO cJ ao r2.2)) [] zAs3 zAs4 rfl rfl (Nat.le_of_ble_eq_true rfl) dL_law_1009 ?_
  refine z_iload C dL_law_1012 1 rfl ?_
  refine z_icmp_eq (tgt := 1019) C dL_law_1014 (by decide) (fun c6 => ?_) (fun c6 => ?_)
  · have hF := zif hF c6
    refine z_iload C dL_law_1019 1 rfl ?_
    refine z_if_ne (tgt := 1036) C dL_law_1021 (by decide) (fun c7 => ?_) (fun c7 => ?_)
    · have hF := zelse hF c7
      refine z_goto (tgt := 1886) C dL_law_1036 (by decide) ?_
      exact z_sub C [2, 3, 4, 5, 6] rfl (hk B P M T K U L r2.2 r4.2 V hF)
    · have hF := zif hF c7
      refine z_aload_n C dL_law_1024 rfl 5 rfl ?_
      refine z_iconst (v := 0) C dL_law_1025 (by decide) ?_
      obtain ⟨g8, hF⟩ := zix_some hF
      refine z_lald (v := (r2.2 (0 : Int32).toNatClampNeg)) C g8 30 rfl rfl rfl dL_law_1026 ?_
      refine z_iload C dL_law_1027 0 rfl ?_
      refine z_i2l C dL_law_1029 ?_
      refine z_lcmp C dL_law_1030 ?_
      refine z_if_eq (tgt := 1036) C dL_law_1031 (by decide) (fun c9 => ?_) (fun c9 => ?_)
      · have hF := zif hF c9
        refine z_goto (tgt := 1886) C dL_law_1036 (by decide) ?_
        exact z_sub C [2, 3, 4, 5, 6] rfl (hk B P M T K U L r2.2 r4.2 V hF)
      · have hF := zelse hF c9
        refine z_iconst (v := 0) C dL_law_1034 (by decide) ?_
        exact absurd (Option.some.inj hF) (by decide)
  · have hF := zelse hF c6
    refine z_iconst (v := 0) C dL_law_1017 (by decide) ?_
    exact absurd (Option.some.inj hF) (by decide)
set_option maxHeartbeats 4000000 in
set_option maxRecDepth 100000 in
theorem c_law_13 (l : Launch) (hl : l.stackTraces = false) (D : va_G) (cI cJ cZ : ClassId) (ab ao : Nat) (a5 a3 a6 a1 a0 a8 : Nat → Nat) {p : Program} {e : Env} {s : State} {m : MethodId} {args : Array Value} {below : List Frame} {meth : Method} {c : Code} {A : Nat → Prop} {rt : Option FieldType} {Q : State → Prop} (C : zC p s m args meth c cL_law 8 rt RL wsL_law D (zTy cI cJ cZ) A s.heap) (XE : zE A s s.heap) (XN : zN s) {b sL : Nat} {xs : Nat → Int32} (hX : va_X b sL xs s s.heap) (hbl : b < s.heap.size) (hbA : ¬ A b)
    (cl sl : Nat) (hc1 : cl + 1 ≤ 1096) (hs1 : sl + 6 ≤ 26258) (i : Int32) (k : SS → SS → SS → SS → SS → SS → SL → SL → SS → SL → Option Int32) (hk : ∀ (B : SS) (P : SS) (M : SS) (T : SS) (K : SS) (U : SS) (L : SL) (O : SL) (S : SS) (V : SL), k B P M T K U L O S V = some 1 → zW p l e room_1 s m args below meth c 8 D A s.heap (cl + 1) (sl + 6) Q (zwX7 cI cJ cZ ab a5 a3 a6 a1 a0 B P M T K U L ++ (zwO cJ ao O ++ zwX8 cI cJ cZ a8 S V)) [(0, .ref b), (1, .ref ab), (2, .ref (a8 0)), (3, .ref ao), (4, .int i)] 1886 []) (B : SS) (P : SS) (M : SS) (T : SS) (K : SS) (U : SS) (L : SL) (O : SL) (S : SS) (V : SL)
    (hF : f_law_13 xs sL i k B P M T K U L O S V = some 1) : zW p l e room_1 s m args below meth c 8 D A s.heap cl sl Q (zwX7 cI cJ cZ ab a5 a3 a6 a1 a0 B P M T K U L ++ (zwO cJ ao O ++ zwX8 cI cJ cZ a8 S V)) [(0, .ref b), (1, .ref ab), (2, .ref (a8 0)), (3, .ref ao), (4, .int i)] 1039 [] := by
  have hc0 : cl ≤ 1096 := Nat.le_of_succ_le hc1
  have hs0 : sl ≤ 26258 := Nat.le_trans (Nat.le_add_right _ _) hs1
  refine z_aload_n C dL_law_1039 rfl 1 rfl ?_
  obtain ⟨r1, er1, hF⟩ := zbd hF
  refine z_callV (n := 0) (As := []) (ws' := (zwX7 cI cJ cZ ab a5 a3 a6 a1 a0 B P M T K U L ++ (zwO cJ ao O ++ zwX8 cI cJ cZ a8 S V))) C (c_X7_tokens l D cI cJ cZ ab a5 a3 a6 a1 a0 B P M T K U L r1 er1) gL_law_X7_tokens rfl rfl rfl (by decide +kernel) ⟨Nat.le_of_ble_eq_true rfl, Nat.le_of_ble_eq_true rfl⟩ ⟨hc0, hs0⟩ 0 rfl rfl [] ((zwO cJ ao O) ++ (zwX8 cI cJ cZ a8 S V)) rfl rfl rfl rfl (Nat.le_of_ble_eq_true rfl) dL_law_1040 ?_
  refine z_aload_n C dL_law_1043 rfl 2 rfl ?_
  obtain ⟨r2, er2, hF⟩ := zbd hF
  refine z_callV (n := 0) (As := []) (ws' := (zwX7 cI cJ cZ ab a5 a3 a6 a1 a0 B P M T K U L ++ (zwO cJ ao O ++ zwX8 cI cJ cZ a8 r2.2 V))) C (c_X8_tokens l D cI cJ cZ a8 S V r2 er2) gL_law_X8_tokens rfl rfl rfl (by decide +kernel) ⟨Nat.le_of_ble_eq_true rfl, Nat.le_of_ble_eq_true rfl⟩ ⟨hc0, hs0⟩ 31 rfl rfl ((zwX7 cI cJ cZ ab a5 a3 a6 a1 a0 B P M T K U L) ++ (zwO cJ ao O)) [] zAs3 zAs4 rfl rfl (Nat.le_of_ble_eq_true rfl) dL_law_1044 ?_
  refine z_icmp_eq (tgt := 1886) C dL_law_1047 (by decide) (fun c3 => ?_) (fun c3 => ?_)
  · have hF := zif hF c3
    refine z_iwiden (k := cl + 1) (n := sl + 6) (Nat.le_succ _) (Nat.le_add_right _ _) ?_
    exact z_sub C [0, 1, 2, 3, 4] rfl (hk B P M T K U L O r2.2 V hF)
  · have hF := zelse hF c3
    refine z_iconst (v := 0) C dL_law_1050 (by decide) ?_
    exact absurd (Option.some.inj hF) (by decide)
set_option maxHeartbeats 4000000 in
set_option maxRecDepth 100000 in
theorem c_law_14 (l : Launch) (hl : l.stackTraces = false) (D : va_G) (cI cJ cZ : ClassId) (ab ao : Nat) (a5 a3 a6 a1 a0 a8 : Nat → Nat) {p : Program} {e : Env} {s : State} {m : MethodId} {args : Array Value} {below : List Frame} {meth : Method} {c : Code} {A : Nat → Prop} {rt : Option FieldType} {Q : State → Prop} (C : zC p s m args meth c cL_law 8 rt RL wsL_law D (zTy cI cJ cZ) A s.heap) (XE : zE A s s.heap) (XN : zN s) {b sL : Nat} {xs : Nat → Int32} (hX : va_X b sL xs s s.heap) (hbl : b < s.heap.size) (hbA : ¬ A b)
    (cl sl : Nat) (hc1 : cl + 1 ≤ 1096) (hs1 : sl + 6 ≤ 26258) (i : Int32) (k : SS → SS → SS → SS → SS → SS → SL → SL → SS → SL → Option Int32) (hk : ∀ (B : SS) (P : SS) (M : SS) (T : SS) (K : SS) (U : SS) (L : SL) (O : SL) (S : SS) (V : SL), k B P M T K U L O S V = some 1 → zW p l e room_1 s m args below meth c 8 D A s.heap (cl + 1) (sl + 6) Q (zwX7 cI cJ cZ ab a5 a3 a6 a1 a0 B P M T K U L ++ (zwO cJ ao O ++ zwX8 cI cJ cZ a8 S V)) [(0, .ref b), (1, .ref ab), (2, .ref (a8 0)), (3, .ref ao), (4, .int i)] 1886 []) (B : SS) (P : SS) (M : SS) (T : SS) (K : SS) (U : SS) (L : SL) (O : SL) (S : SS) (V : SL)
    (hF : f_law_14 xs sL i k B P M T K U L O S V = some 1) : zW p l e room_1 s m args below meth c 8 D A s.heap cl sl Q (zwX7 cI cJ cZ ab a5 a3 a6 a1 a0 B P M T K U L ++ (zwO cJ ao O ++ zwX8 cI cJ cZ a8 S V)) [(0, .ref b), (1, .ref ab), (2, .ref (a8 0)), (3, .ref ao), (4, .int i)] 1052 [] := by
  have hc0 : cl ≤ 1096 := Nat.le_of_succ_le hc1
  have hs0 : sl ≤ 26258 := Nat.le_trans (Nat.le_add_right _ _) hs1
  refine z_aload_n C dL_law_1052 rfl 1 rfl ?_
  refine z_aload_n C dL_law_1053 rfl 0 rfl ?_
  refine z_iload C dL_law_1054 4 rfl ?_
  refine z_iconst (v := 1) C dL_law_1056 (by decide) ?_
  refine z_iadd C dL_law_1057 ?_
  obtain ⟨g1, hF⟩ := zix_some hF
  refine z_sld C hX hbl hbA g1 dL_law_1058 ?_
  refine z_aload_n C dL_law_1059 rfl 0 rfl ?_
  refine z_iload C dL_law_1060 4 rfl ?_
  refine z_iconst (v := 2) C dL_law_1062 (by decide) ?_
  refine z_iadd C dL_law_1063 ?_
  obtain ⟨g2, hF⟩ := zix_some hF
  refine z_sld C hX hbl hbA g2 dL_law_1064 ?_
  refine z_aload_n C dL_law_1065 rfl 3 rfl ?_
  obtain ⟨r3, er3, hF⟩ := zbd hF
  refine z_lcallS (n := 4) (As := [.ref ab, .int (xs (i + 1).toNatClampNeg), .int (xs (i + 2).toNatClampNeg), .ref ao]) (ws' := (zwX7 cI cJ cZ ab a5 a3 a6 a1 a0 B P M T K U L ++ (zwO cJ ao r3.2 ++ zwX8 cI cJ cZ a8 S V))) C XE XN (c_L_capabilities l hl D cI cJ cZ ab a5 a3 a6 a1 a0 ao B P M T K U L O (xs (i + 1).toNatClampNeg) (xs (i + 2).toNatClampNeg) r3 er3) gL_law_L_capabilities rfl (by decide +kernel) ⟨Nat.le_of_ble_eq_true rfl, Nat.le_of_ble_eq_true rfl⟩ ⟨hc1, hs1⟩ [] (zwX8 cI cJ cZ a8 S V) zAs1 zAs2 rfl rfl (Nat.le_of_ble_eq_true rfl) dL_law_1066 ?_
  refine z_istore (lv' := [(5, .int r3.1), (0, .ref b), (1, .ref ab), (2, .ref (a8 0)), (3, .ref ao), (4, .int i)]) C dL_law_1069 (by decide) rfl ?_
  refine z_aload_n C dL_law_1071 rfl 3 rfl ?_
  refine z_aload_n C dL_law_1072 rfl 1 rfl ?_
  refine z_iload C dL_law_1073 5 rfl ?_
  refine z_iconst (v := 1) C dL_law_1075 (by decide) ?_
  refine z_iadd C dL_law_1076 ?_
  obtain ⟨g4, hF⟩ := zix_some hF
  refine z_sld C hX hbl hbA g4 dL_law_1077 ?_
  refine z_aload_n C dL_law_1078 rfl 1 rfl ?_
  refine z_iload C dL_law_1079 5 rfl ?_
  refine z_iconst (v := 2) C dL_law_1081 (by decide) ?_
  refine z_iadd C dL_law_1082 ?_
  obtain ⟨g5, hF⟩ := zix_some hF
  refine z_sld C hX hbl hbA g5 dL_law_1083 ?_
  obtain ⟨r6, er6, hF⟩ := zbd hF
  refine z_callV (n := 2) (As := [.int (xs (i + 1).toNatClampNeg), .int (xs (i + 2).toNatClampNeg)]) (ws' := (zwX7 cI cJ cZ ab a5 a3 a6 a1 a0 B P M T K U L ++ (zwO cJ ao r3.2 ++ zwX8 cI cJ cZ a8 r6.2 V))) C (c_X8_capabilities l D cI cJ cZ a8 S V (xs (i + 1).toNatClampNeg) (xs (i + 2).toNatClampNeg) r6 er6) gL_law_X8_capabilities rfl rfl rfl (by decide +kernel) ⟨Nat.le_of_ble_eq_true rfl, Nat.le_of_ble_eq_true rfl⟩ ⟨hc1, hs1⟩ 31 rfl rfl ((zwX7 cI cJ cZ ab a5 a3 a6 a1 a0 B P M T K U L) ++ (zwO cJ ao r3.2)) [] zAs3 zAs4 rfl rfl (Nat.le_of_ble_eq_true rfl) dL_law_1084 ?_
  refine z_istore (lv' := [(6, .int r6.1), (5, .int r3.1), (0, .ref b), (1, .ref ab), (2, .ref (a8 0)), (3, .ref ao), (4, .int i)]) C dL_law_1087 (by decide) rfl ?_
  refine z_aload_n C dL_law_1089 rfl 4 rfl ?_
  obtain ⟨r7, er7, hF⟩ := zbd hF
  refine z_callV (n := 0) (As := []) (ws' := (zwX7 cI cJ cZ ab a5 a3 a6 a1 a0 B P M T K U L ++ (zwO cJ ao r3.2 ++ zwX8 cI cJ cZ a8 r6.2 V))) C (c_X8_thrown l D cI cJ cZ a8 r6.2 V r7 er7) gL_law_X8_thrown rfl rfl rfl (by decide +kernel) ⟨Nat.le_of_ble_eq_true rfl, Nat.le_of_ble_eq_true rfl⟩ ⟨hc1, hs1⟩ 31 rfl rfl ((zwX7 cI cJ cZ ab a5 a3 a6 a1 a0 B P M T K U L) ++ (zwO cJ ao r3.2)) [] zAs3 zAs4 rfl rfl (Nat.le_of_ble_eq_true rfl) dL_law_1090 ?_
  refine z_iload C dL_law_1093 1 rfl ?_
  refine z_icmp_eq (tgt := 1100) C dL_law_1095 (by decide) (fun c8 => ?_) (fun c8 => ?_)
  · have hF := zif hF c8
    refine z_iload C dL_law_1100 1 rfl ?_
    refine z_if_ne (tgt := 1117) C dL_law_1102 (by decide) (fun c9 => ?_) (fun c9 => ?_)
    · have hF := zelse hF c9
      refine z_goto (tgt := 1886) C dL_law_1117 (by decide) ?_
      exact z_sub C [2, 3, 4, 5, 6] rfl (hk B P M T K U L r3.2 r6.2 V hF)
    · have hF := zif hF c9
      refine z_aload_n C dL_law_1105 rfl 5 rfl ?_
      refine z_iconst (v := 0) C dL_law_1106 (by decide) ?_
      obtain ⟨g10, hF⟩ := zix_some hF
      refine z_lald (v := (r3.2 (0 : Int32).toNatClampNeg)) C g10 30 rfl rfl rfl dL_law_1107 ?_
      refine z_iload C dL_law_1108 0 rfl ?_
      refine z_i2l C dL_law_1110 ?_
      refine z_lcmp C dL_law_1111 ?_
      refine z_if_eq (tgt := 1117) C dL_law_1112 (by decide) (fun c11 => ?_) (fun c11 => ?_)
      · have hF := zif hF c11
        refine z_goto (tgt := 1886) C dL_law_1117 (by decide) ?_
        exact z_sub C [2, 3, 4, 5, 6] rfl (hk B P M T K U L r3.2 r6.2 V hF)
      · have hF := zelse hF c11
        refine z_iconst (v := 0) C dL_law_1115 (by decide) ?_
        exact absurd (Option.some.inj hF) (by decide)
  · have hF := zelse hF c8
    refine z_iconst (v := 0) C dL_law_1098 (by decide) ?_
    exact absurd (Option.some.inj hF) (by decide)
