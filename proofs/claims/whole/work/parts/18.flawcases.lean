def f_law_0 (xs : Nat → Int32) (sL : Nat) (i : Int32) (k : SS → SS → SS → SS → SS → SS → SL → SL → SS → SL → Option Int32) (B : SS) (P : SS) (M : SS) (T : SS) (K : SS) (U : SS) (L : SL) (O : SL) (S : SS) (V : SL) : Option Int32 := (f_L_policy P O).bind (fun r1 => (f_X8_policy S).bind (fun r2 => (f_X8_thrown r2.2).bind (fun r3 => (if r3 = r1.1 then (if r1.1 = 0 then zix 0 1 ((if (lg_cmp (r1.2.2 (0 : Int32).toNatClampNeg) ((r2.1).toInt64)) = 0 then k B r1.2.1 M T K U L r1.2.2 r2.2 V else
 some 0)) else
 k B r1.2.1 M T K U L r1.2.2 r2.2 V) else
 some 0))))
def f_law_1 (xs : Nat → Int32) (sL : Nat) (i : Int32) (k : SS → SS → SS → SS → SS → SS → SL → SL → SS → SL → Option Int32) (B : SS) (P : SS) (M : SS) (T : SS) (K : SS) (U : SS) (L : SL) (O : SL) (S : SS) (V : SL) : Option Int32 := zix (i + 1) sL (zix (i + 2) sL (zix (i + 3) sL ((if (xs (i + 3).toNatClampNeg) = 0 then zix (i + 4) sL ((f_L_allow P O (xs (i + 1).toNatClampNeg) (xs (i + 2).toNatClampNeg) 0 (xs (i + 4).toNatClampNeg)).bind (fun r6 => zix (i + 1) sL (zix (i + 2) sL (zix (i + 3) sL ((if (xs (i + 3).toNatClampNeg) = 0 then zix (i + 4) sL ((f_X8_allow S (xs (i + 1).toNatClampNeg) (xs (i + 2).toNatClampNeg) 0 (xs (i + 4).toNatClampNeg)).bind (fun r12 => (f_X8_thrown r12.2).bind (fun r13 => (if r13 = r6.1 then (if r6.1 = 0 then zix 0 1 ((if (lg_cmp (r6.2.2 (0 : Int32).toNatClampNeg) ((r12.1).toInt64)) = 0 then k B r6.2.1 M T K U L r6.2.2 r12.2 V else
 some 0)) else
 k B r6.2.1 M T K U L r6.2.2 r12.2 V) else
 some 0)))) else
 zix (i + 4) sL ((f_X8_allow S (xs (i + 1).toNatClampNeg) (xs (i + 2).toNatClampNeg) 1 (xs (i + 4).toNatClampNeg)).bind (fun r19 => (f_X8_thrown r19.2).bind (fun r20 => (if r20 = r6.1 then (if r6.1 = 0 then zix 0 1 ((if (lg_cmp (r6.2.2 (0 : Int32).toNatClampNeg) ((r19.1).toInt64)) = 0 then k B r6.2.1 M T K U L r6.2.2 r19.2 V else
 some 0)) else
 k B r6.2.1 M T K U L r6.2.2 r19.2 V) else
 some 0)))))))))) else
 zix (i + 4) sL ((f_L_allow P O (xs (i + 1).toNatClampNeg) (xs (i + 2).toNatClampNeg) 1 (xs (i + 4).toNatClampNeg)).bind (fun r26 => zix (i + 1) sL (zix (i + 2) sL (zix (i + 3) sL ((if (xs (i + 3).toNatClampNeg) = 0 then zix (i + 4) sL ((f_X8_allow S (xs (i + 1).toNatClampNeg) (xs (i + 2).toNatClampNeg) 0 (xs (i + 4).toNatClampNeg)).bind (fun r32 => (f_X8_thrown r32.2).bind (fun r33 => (if r33 = r26.1 then (if r26.1 = 0 then zix 0 1 ((if (lg_cmp (r26.2.2 (0 : Int32).toNatClampNeg) ((r32.1).toInt64)) = 0 then k B r26.2.1 M T K U L r26.2.2 r32.2 V else
 some 0)) else
 k B r26.2.1 M T K U L r26.2.2 r32.2 V) else
 some 0)))) else
 zix (i + 4) sL ((f_X8_allow S (xs (i + 1).toNatClampNeg) (xs (i + 2).toNatClampNeg) 1 (xs (i + 4).toNatClampNeg)).bind (fun r39 => (f_X8_thrown r39.2).bind (fun r40 => (if r40 = r26.1 then (if r26.1 = 0 then zix 0 1 ((if (lg_cmp (r26.2.2 (0 : Int32).toNatClampNeg) ((r39.1).toInt64)) = 0 then k B r26.2.1 M T K U L r26.2.2 r39.2 V else
 some 0)) else
 k B r26.2.1 M T K U L r26.2.2 r39.2 V) else
 some 0))))))))))))))
def f_law_2 (xs : Nat → Int32) (sL : Nat) (i : Int32) (k : SS → SS → SS → SS → SS → SS → SL → SL → SS → SL → Option Int32) (B : SS) (P : SS) (M : SS) (T : SS) (K : SS) (U : SS) (L : SL) (O : SL) (S : SS) (V : SL) : Option Int32 := zix (i + 1) sL ((f_L_clear P O (xs (i + 1).toNatClampNeg)).bind (fun r2 => zix (i + 1) sL ((f_X8_clear S (xs (i + 1).toNatClampNeg)).bind (fun r4 => (f_X8_thrown r4.2).bind (fun r5 => (if r5 = r2.1 then (if r2.1 = 0 then zix 0 1 ((if (lg_cmp (r2.2.2 (0 : Int32).toNatClampNeg) ((r4.1).toInt64)) = 0 then k B r2.2.1 M T K U L r2.2.2 r4.2 V else
 some 0)) else
 k B r2.2.1 M T K U L r2.2.2 r4.2 V) else
 some 0))))))
def f_law_3 (xs : Nat → Int32) (sL : Nat) (i : Int32) (k : SS → SS → SS → SS → SS → SS → SL → SL → SS → SL → Option Int32) (B : SS) (P : SS) (M : SS) (T : SS) (K : SS) (U : SS) (L : SL) (O : SL) (S : SS) (V : SL) : Option Int32 := zix (i + 1) sL (zix (i + 2) sL (zix (i + 3) sL ((f_L_mount M O (xs (i + 1).toNatClampNeg) (xs (i + 2).toNatClampNeg) (xs (i + 3).toNatClampNeg)).bind (fun r4 => zix (i + 1) sL (zix (i + 2) sL (zix (i + 3) sL ((f_X8_mount S (xs (i + 1).toNatClampNeg) (xs (i + 2).toNatClampNeg) (xs (i + 3).toNatClampNeg)).bind (fun r8 => (f_X8_thrown r8.2).bind (fun r9 => (if r9 = r4.1 then (if r4.1 = 0 then zix 0 1 ((if (lg_cmp (r4.2.2 (0 : Int32).toNatClampNeg) ((r8.1).toInt64)) = 0 then k B P r4.2.1 T K U L r4.2.2 r8.2 V else
 some 0)) else
 k B P r4.2.1 T K U L r4.2.2 r8.2 V) else
 some 0))))))))))
def f_law_4 (xs : Nat → Int32) (sL : Nat) (i : Int32) (k : SS → SS → SS → SS → SS → SS → SL → SL → SS → SL → Option Int32) (B : SS) (P : SS) (M : SS) (T : SS) (K : SS) (U : SS) (L : SL) (O : SL) (S : SS) (V : SL) : Option Int32 := zix (i + 1) sL (zix (i + 2) sL (zix (i + 3) sL (zix (i + 4) sL (zix (i + 5) sL ((f_L_create B P T U L O (xs (i + 1).toNatClampNeg) (xs (i + 2).toNatClampNeg) (xs (i + 3).toNatClampNeg) (xs (i + 4).toNatClampNeg) (xs (i + 5).toNatClampNeg)).bind (fun r6 => zix (i + 1) sL (zix (i + 2) sL (zix (i + 3) sL (zix (i + 4) sL (zix (i + 5) sL ((f_X8_create S V (xs (i + 1).toNatClampNeg) (xs (i + 2).toNatClampNeg) (xs (i + 3).toNatClampNeg) (xs (i + 4).toNatClampNeg) (xs (i + 5).toNatClampNeg)).bind (fun r12 => (f_X8_thrown r12.2.1).bind (fun r13 => (if r13 = r6.1 then (if r6.1 = 0 then zix 0 1 ((if (lg_cmp (r6.2.2.2.2 (0 : Int32).toNatClampNeg) ((r12.1).toInt64)) = 0 then k B P M r6.2.1 K r6.2.2.1 r6.2.2.2.1 r6.2.2.2.2 r12.2.1 r12.2.2 else
 some 0)) else
 k B P M r6.2.1 K r6.2.2.1 r6.2.2.2.1 r6.2.2.2.2 r12.2.1 r12.2.2) else
 some 0))))))))))))))
def f_law_5 (xs : Nat → Int32) (sL : Nat) (i : Int32) (k : SS → SS → SS → SS → SS → SS → SL → SL → SS → SL → Option Int32) (B : SS) (P : SS) (M : SS) (T : SS) (K : SS) (U : SS) (L : SL) (O : SL) (S : SS) (V : SL) : Option Int32 := zix (i + 1) sL (zix (i + 2) sL ((f_L_renew B T U L O (xs (i + 1).toNatClampNeg) (xs (i + 2).toNatClampNeg)).bind (fun r3 => zix (i + 1) sL (zix (i + 2) sL ((f_X8_renew S V (xs (i + 1).toNatClampNeg) (xs (i + 2).toNatClampNeg)).bind (fun r6 => (f_X8_thrown r6.2.1).bind (fun r7 => (if r7 = r3.1 then (if r3.1 = 0 then zix 0 1 ((if (lg_cmp (r3.2.2.2.2 (0 : Int32).toNatClampNeg) ((r6.1).toInt64)) = 0 then k B P M r3.2.1 K r3.2.2.1 r3.2.2.2.1 r3.2.2.2.2 r6.2.1 r6.2.2 else
 some 0)) else
 k B P M r3.2.1 K r3.2.2.1 r3.2.2.2.1 r3.2.2.2.2 r6.2.1 r6.2.2) else
 some 0))))))))
def f_law_6 (xs : Nat → Int32) (sL : Nat) (i : Int32) (k : SS → SS → SS → SS → SS → SS → SL → SL → SS → SL → Option Int32) (B : SS) (P : SS) (M : SS) (T : SS) (K : SS) (U : SS) (L : SL) (O : SL) (S : SS) (V : SL) : Option Int32 := zix (i + 1) sL ((f_L_revoke B T K U L O (xs (i + 1).toNatClampNeg)).bind (fun r2 => zix (i + 1) sL ((f_X8_revoke S V (xs (i + 1).toNatClampNeg)).bind (fun r4 => (f_X8_thrown r4.2.1).bind (fun r5 => (if r5 = r2.1 then (if r2.1 = 0 then zix 0 1 ((if (lg_cmp (r2.2.2.2.2.2 (0 : Int32).toNatClampNeg) ((r4.1).toInt64)) = 0 then k B P M r2.2.1 r2.2.2.1 r2.2.2.2.1 r2.2.2.2.2.1 r2.2.2.2.2.2 r4.2.1 r4.2.2 else
 some 0)) else
 k B P M r2.2.1 r2.2.2.1 r2.2.2.2.1 r2.2.2.2.2.1 r2.2.2.2.2.2 r4.2.1 r4.2.2) else
 some 0))))))
def f_law_7 (xs : Nat → Int32) (sL : Nat) (i : Int32) (k : SS → SS → SS → SS → SS → SS → SL → SL → SS → SL → Option Int32) (B : SS) (P : SS) (M : SS) (T : SS) (K : SS) (U : SS) (L : SL) (O : SL) (S : SS) (V : SL) : Option Int32 := zix (i + 1) sL ((f_L_revokeAlone B T K U L O (xs (i + 1).toNatClampNeg)).bind (fun r2 => zix (i + 1) sL ((f_X8_revokeAlone S V (xs (i + 1).toNatClampNeg)).bind (fun r4 => (f_X8_thrown r4.2.1).bind (fun r5 => (if r5 = r2.1 then (if r2.1 = 0 then zix 0 1 ((if (lg_cmp (r2.2.2.2.2.2 (0 : Int32).toNatClampNeg) ((r4.1).toInt64)) = 0 then k B P M r2.2.1 r2.2.2.1 r2.2.2.2.1 r2.2.2.2.2.1 r2.2.2.2.2.2 r4.2.1 r4.2.2 else
 some 0)) else
 k B P M r2.2.1 r2.2.2.1 r2.2.2.2.1 r2.2.2.2.2.1 r2.2.2.2.2.2 r4.2.1 r4.2.2) else
 some 0))))))
def f_law_8 (xs : Nat → Int32) (sL : Nat) (i : Int32) (k : SS → SS → SS → SS → SS → SS → SL → SL → SS → SL → Option Int32) (B : SS) (P : SS) (M : SS) (T : SS) (K : SS) (U : SS) (L : SL) (O : SL) (S : SS) (V : SL) : Option Int32 := zix (i + 1) sL ((f_L_isAlive T O (xs (i + 1).toNatClampNeg)).bind (fun r2 => zix (i + 1) sL ((f_X8_isAlive S (xs (i + 1).toNatClampNeg)).bind (fun r4 => (f_X8_thrown r4.2).bind (fun r5 => (if r5 = r2.1 then (if r2.1 = 0 then zix 0 1 ((if r4.1 = 0 then (if (lg_cmp (r2.2 (0 : Int32).toNatClampNeg) 0) = 0 then k B P M T K U L r2.2 r4.2 V else
 some 0) else
 (if (lg_cmp (r2.2 (0 : Int32).toNatClampNeg) 1) = 0 then k B P M T K U L r2.2 r4.2 V else
 some 0))) else
 k B P M T K U L r2.2 r4.2 V) else
 some 0))))))
def f_law_9 (xs : Nat → Int32) (sL : Nat) (i : Int32) (k : SS → SS → SS → SS → SS → SS → SL → SL → SS → SL → Option Int32) (B : SS) (P : SS) (M : SS) (T : SS) (K : SS) (U : SS) (L : SL) (O : SL) (S : SS) (V : SL) : Option Int32 := zix (i + 1) sL ((f_L_parentOf T O (xs (i + 1).toNatClampNeg)).bind (fun r2 => zix (i + 1) sL ((f_X8_parentOf S (xs (i + 1).toNatClampNeg)).bind (fun r4 => (f_X8_thrown r4.2).bind (fun r5 => (if r5 = r2.1 then (if r2.1 = 0 then zix 0 1 ((if (lg_cmp (r2.2 (0 : Int32).toNatClampNeg) ((r4.1).toInt64)) = 0 then k B P M T K U L r2.2 r4.2 V else
 some 0)) else
 k B P M T K U L r2.2 r4.2 V) else
 some 0))))))
def f_law_10 (xs : Nat → Int32) (sL : Nat) (i : Int32) (k : SS → SS → SS → SS → SS → SS → SL → SL → SS → SL → Option Int32) (B : SS) (P : SS) (M : SS) (T : SS) (K : SS) (U : SS) (L : SL) (O : SL) (S : SS) (V : SL) : Option Int32 := zix (i + 1) sL ((f_L_endOf T O (xs (i + 1).toNatClampNeg)).bind (fun r2 => zix (i + 1) sL ((f_X8_endOf S (xs (i + 1).toNatClampNeg)).bind (fun r4 => (f_X8_thrown r4.2).bind (fun r5 => (if r5 = r2.1 then (if r2.1 = 0 then zix 0 1 ((if (lg_cmp (r2.2 (0 : Int32).toNatClampNeg) ((r4.1).toInt64)) = 0 then k B P M T K U L r2.2 r4.2 V else
 some 0)) else
 k B P M T K U L r2.2 r4.2 V) else
 some 0))))))
def f_law_11 (xs : Nat → Int32) (sL : Nat) (i : Int32) (k : SS → SS → SS → SS → SS → SS → SL → SL → SS → SL → Option Int32) (B : SS) (P : SS) (M : SS) (T : SS) (K : SS) (U : SS) (L : SL) (O : SL) (S : SS) (V : SL) : Option Int32 := zix (i + 1) sL ((f_L_usesLeft T O (xs (i + 1).toNatClampNeg)).bind (fun r2 => zix (i + 1) sL ((f_X8_usesLeft S (xs (i + 1).toNatClampNeg)).bind (fun r4 => (f_X8_thrown r4.2).bind (fun r5 => (if r5 = r2.1 then (if r2.1 = 0 then zix 0 1 ((if (lg_cmp (r2.2 (0 : Int32).toNatClampNeg) ((r4.1).toInt64)) = 0 then k B P M T K U L r2.2 r4.2 V else
 some 0)) else
 k B P M T K U L r2.2 r4.2 V) else
 some 0))))))
def f_law_12 (xs : Nat → Int32) (sL : Nat) (i : Int32) (k : SS → SS → SS → SS → SS → SS → SL → SL → SS → SL → Option Int32) (B : SS) (P : SS) (M : SS) (T : SS) (K : SS) (U : SS) (L : SL) (O : SL) (S : SS) (V : SL) : Option Int32 := zix (i + 1) sL ((f_L_below T O (xs (i + 1).toNatClampNeg)).bind (fun r2 => zix (i + 1) sL ((f_X8_below S (xs (i + 1).toNatClampNeg)).bind (fun r4 => (f_X8_thrown r4.2).bind (fun r5 => (if r5 = r2.1 then (if r2.1 = 0 then zix 0 1 ((if (lg_cmp (r2.2 (0 : Int32).toNatClampNeg) ((r4.1).toInt64)) = 0 then k B P M T K U L r2.2 r4.2 V else
 some 0)) else
 k B P M T K U L r2.2 r4.2 V) else
 some 0))))))
def f_law_13 (xs : Nat → Int32) (sL : Nat) (i : Int32) (k : SS → SS → SS → SS → SS → SS → SL → SL → SS → SL → Option Int32) (B : SS) (P : SS) (M : SS) (T : SS) (K : SS) (U : SS) (L : SL) (O : SL) (S : SS) (V : SL) : Option Int32 := (f_X7_tokens T).bind (fun r1 => (f_X8_tokens S).bind (fun r2 => (if r1 = r2.1 then k B P M T K U L O r2.2 V else
 some 0)))
def f_law_14 (xs : Nat → Int32) (sL : Nat) (i : Int32) (k : SS → SS → SS → SS → SS → SS → SL → SL → SS → SL → Option Int32) (B : SS) (P : SS) (M : SS) (T : SS) (K : SS) (U : SS) (L : SL) (O : SL) (S : SS) (V : SL) : Option Int32 := zix (i + 1) sL (zix (i + 2) sL ((f_L_capabilities P T O (xs (i + 1).toNatClampNeg) (xs (i + 2).toNatClampNeg)).bind (fun r3 => zix (i + 1) sL (zix (i + 2) sL ((f_X8_capabilities S (xs (i + 1).toNatClampNeg) (xs (i + 2).toNatClampNeg)).bind (fun r6 => (f_X8_thrown r6.2).bind (fun r7 => (if r7 = r3.1 then (if r3.1 = 0 then zix 0 1 ((if (lg_cmp (r3.2 (0 : Int32).toNatClampNeg) ((r6.1).toInt64)) = 0 then k B P M T K U L r3.2 r6.2 V else
 some 0)) else
 k B P M T K U L r3.2 r6.2 V) else
 some 0))))))))
def f_law_15 (xs : Nat → Int32) (sL : Nat) (i : Int32) (k : SS → SS → SS → SS → SS → SS → SL → SL → SS → SL → Option Int32) (B : SS) (P : SS) (M : SS) (T : SS) (K : SS) (U : SS) (L : SL) (O : SL) (S : SS) (V : SL) : Option Int32 := zix (i + 1) sL (zix (i + 2) sL ((f_L_request B P M T K U L O (xs (i + 1).toNatClampNeg) (xs (i + 2).toNatClampNeg)).bind (fun r3 => zix (i + 1) sL (zix (i + 2) sL ((f_X8_request S V (xs (i + 1).toNatClampNeg) (xs (i + 2).toNatClampNeg)).bind (fun r6 => (f_X8_thrown r6.2.1).bind (fun r7 => (if r7 = r3.1 then (if r3.1 = 0 then zix 0 1 ((if (lg_cmp (r3.2.2.2.2.2 (0 : Int32).toNatClampNeg) ((r6.1).toInt64)) = 0 then k B P M r3.2.1 r3.2.2.1 r3.2.2.2.1 r3.2.2.2.2.1 r3.2.2.2.2.2 r6.2.1 r6.2.2 else
 some 0)) else
 k B P M r3.2.1 r3.2.2.1 r3.2.2.2.1 r3.2.2.2.2.1 r3.2.2.2.2.2 r6.2.1 r6.2.2) else
 some 0))))))))
def f_law_16 (xs : Nat → Int32) (sL : Nat) (i : Int32) (k : SS → SS → SS → SS → SS → SS → SL → SL → SS → SL → Option Int32) (B : SS) (P : SS) (M : SS) (T : SS) (K : SS) (U : SS) (L : SL) (O : SL) (S : SS) (V : SL) : Option Int32 := zix (i + 1) sL (zix (i + 2) sL ((f_L_whyDenied P M T O (xs (i + 1).toNatClampNeg) (xs (i + 2).toNatClampNeg)).bind (fun r3 => zix (i + 1) sL (zix (i + 2) sL ((f_X8_whyDenied S (xs (i + 1).toNatClampNeg) (xs (i + 2).toNatClampNeg)).bind (fun r6 => (f_X8_thrown r6.2).bind (fun r7 => (if r7 = r3.1 then (if r3.1 = 0 then zix 0 1 ((if (lg_cmp (r3.2 (0 : Int32).toNatClampNeg) ((r6.1).toInt64)) = 0 then k B P M T K U L r3.2 r6.2 V else
 some 0)) else
 k B P M T K U L r3.2 r6.2 V) else
 some 0))))))))
def f_law_17 (xs : Nat → Int32) (sL : Nat) (i : Int32) (k : SS → SS → SS → SS → SS → SS → SL → SL → SS → SL → Option Int32) (B : SS) (P : SS) (M : SS) (T : SS) (K : SS) (U : SS) (L : SL) (O : SL) (S : SS) (V : SL) : Option Int32 := zix (i + 1) sL (zix (i + 2) sL ((f_L_renewCredential B K U L O (xs (i + 1).toNatClampNeg) (xs (i + 2).toNatClampNeg)).bind (fun r3 => zix (i + 1) sL (zix (i + 2) sL ((f_X8_renewCredential S V (xs (i + 1).toNatClampNeg) (xs (i + 2).toNatClampNeg)).bind (fun r6 => (f_X8_thrown r6.2.1).bind (fun r7 => (if r7 = r3.1 then (if r3.1 = 0 then zix 0 1 ((if (lg_cmp (r3.2.2.2.2 (0 : Int32).toNatClampNeg) ((r6.1).toInt64)) = 0 then k B P M T r3.2.1 r3.2.2.1 r3.2.2.2.1 r3.2.2.2.2 r6.2.1 r6.2.2 else
 some 0)) else
 k B P M T r3.2.1 r3.2.2.1 r3.2.2.2.1 r3.2.2.2.2 r6.2.1 r6.2.2) else
 some 0))))))))
def f_law_18 (xs : Nat → Int32) (sL : Nat) (i : Int32) (k : SS → SS → SS → SS → SS → SS → SL → SL → SS → SL → Option Int32) (B : SS) (P : SS) (M : SS) (T : SS) (K : SS) (U : SS) (L : SL) (O : SL) (S : SS) (V : SL) : Option Int32 := zix (i + 1) sL ((f_L_revokeBelow B K U L O (xs (i + 1).toNatClampNeg)).bind (fun r2 => zix (i + 1) sL ((f_X8_revokeBelow S V (xs (i + 1).toNatClampNeg)).bind (fun r4 => (f_X8_thrown r4.2.1).bind (fun r5 => (if r5 = r2.1 then (if r2.1 = 0 then zix 0 1 ((if (lg_cmp (r2.2.2.2.2 (0 : Int32).toNatClampNeg) ((r4.1).toInt64)) = 0 then k B P M T r2.2.1 r2.2.2.1 r2.2.2.2.1 r2.2.2.2.2 r4.2.1 r4.2.2 else
 some 0)) else
 k B P M T r2.2.1 r2.2.2.1 r2.2.2.2.1 r2.2.2.2.2 r4.2.1 r4.2.2) else
 some 0))))))
def f_law_19 (xs : Nat → Int32) (sL : Nat) (i : Int32) (k : SS → SS → SS → SS → SS → SS → SL → SL → SS → SL → Option Int32) (B : SS) (P : SS) (M : SS) (T : SS) (K : SS) (U : SS) (L : SL) (O : SL) (S : SS) (V : SL) : Option Int32 := zix (i + 1) sL ((f_L_works K O (xs (i + 1).toNatClampNeg)).bind (fun r2 => zix (i + 1) sL ((f_X8_works S (xs (i + 1).toNatClampNeg)).bind (fun r4 => (f_X8_thrown r4.2).bind (fun r5 => (if r5 = r2.1 then (if r2.1 = 0 then zix 0 1 ((if r4.1 = 0 then (if (lg_cmp (r2.2 (0 : Int32).toNatClampNeg) 0) = 0 then k B P M T K U L r2.2 r4.2 V else
 some 0) else
 (if (lg_cmp (r2.2 (0 : Int32).toNatClampNeg) 1) = 0 then k B P M T K U L r2.2 r4.2 V else
 some 0))) else
 k B P M T K U L r2.2 r4.2 V) else
 some 0))))))
def f_law_20 (xs : Nat → Int32) (sL : Nat) (i : Int32) (k : SS → SS → SS → SS → SS → SS → SL → SL → SS → SL → Option Int32) (B : SS) (P : SS) (M : SS) (T : SS) (K : SS) (U : SS) (L : SL) (O : SL) (S : SS) (V : SL) : Option Int32 := zix (i + 1) sL ((f_L_endOfCredential K O (xs (i + 1).toNatClampNeg)).bind (fun r2 => zix (i + 1) sL ((f_X8_endOfCredential S (xs (i + 1).toNatClampNeg)).bind (fun r4 => (f_X8_thrown r4.2).bind (fun r5 => (if r5 = r2.1 then (if r2.1 = 0 then zix 0 1 ((if (lg_cmp (r2.2 (0 : Int32).toNatClampNeg) ((r4.1).toInt64)) = 0 then k B P M T K U L r2.2 r4.2 V else
 some 0)) else
 k B P M T K U L r2.2 r4.2 V) else
 some 0))))))
def f_law_21 (xs : Nat → Int32) (sL : Nat) (i : Int32) (k : SS → SS → SS → SS → SS → SS → SL → SL → SS → SL → Option Int32) (B : SS) (P : SS) (M : SS) (T : SS) (K : SS) (U : SS) (L : SL) (O : SL) (S : SS) (V : SL) : Option Int32 := (f_X7_credentials K).bind (fun r1 => (f_X8_credentials S).bind (fun r2 => (if r1 = r2.1 then k B P M T K U L O r2.2 V else
 some 0)))
def f_law_22 (xs : Nat → Int32) (sL : Nat) (i : Int32) (k : SS → SS → SS → SS → SS → SS → SL → SL → SS → SL → Option Int32) (B : SS) (P : SS) (M : SS) (T : SS) (K : SS) (U : SS) (L : SL) (O : SL) (S : SS) (V : SL) : Option Int32 := zix (i + 1) sL ((f_L_credentialsOf T K O (xs (i + 1).toNatClampNeg)).bind (fun r2 => zix (i + 1) sL ((f_X8_credentialsOf S (xs (i + 1).toNatClampNeg)).bind (fun r4 => (f_X8_thrown r4.2).bind (fun r5 => (if r5 = r2.1 then (if r2.1 = 0 then zix 0 1 ((if (lg_cmp (r2.2 (0 : Int32).toNatClampNeg) ((r4.1).toInt64)) = 0 then k B P M T K U L r2.2 r4.2 V else
 some 0)) else
 k B P M T K U L r2.2 r4.2 V) else
 some 0))))))
def f_law_23 (xs : Nat → Int32) (sL : Nat) (i : Int32) (k : SS → SS → SS → SS → SS → SS → SL → SL → SS → SL → Option Int32) (B : SS) (P : SS) (M : SS) (T : SS) (K : SS) (U : SS) (L : SL) (O : SL) (S : SS) (V : SL) : Option Int32 := zix (i + 1) sL ((f_L_pass B T K U L O (xs (i + 1).toNatClampNeg)).bind (fun r2 => zix (i + 1) sL ((f_X8_pass S V (xs (i + 1).toNatClampNeg)).bind (fun r4 => (f_X8_thrown r4.2.1).bind (fun r5 => (if r5 = r2.1 then (if r2.1 = 0 then zix 0 1 ((if (lg_cmp (r2.2.2.2.2.2.2 (0 : Int32).toNatClampNeg) ((r4.1).toInt64)) = 0 then k r2.2.1 P M r2.2.2.1 r2.2.2.2.1 r2.2.2.2.2.1 r2.2.2.2.2.2.1 r2.2.2.2.2.2.2 r4.2.1 r4.2.2 else
 some 0)) else
 k r2.2.1 P M r2.2.2.1 r2.2.2.2.1 r2.2.2.2.2.1 r2.2.2.2.2.2.1 r2.2.2.2.2.2.2 r4.2.1 r4.2.2) else
 some 0))))))
def f_law_24 (xs : Nat → Int32) (sL : Nat) (i : Int32) (k : SS → SS → SS → SS → SS → SS → SL → SL → SS → SL → Option Int32) (B : SS) (P : SS) (M : SS) (T : SS) (K : SS) (U : SS) (L : SL) (O : SL) (S : SS) (V : SL) : Option Int32 := (f_X7_time B).bind (fun r1 => (f_X8_time S).bind (fun r2 => (if r1 = r2.1 then k B P M T K U L O r2.2 V else
 some 0)))
def f_law_25 (xs : Nat → Int32) (sL : Nat) (i : Int32) (k : SS → SS → SS → SS → SS → SS → SL → SL → SS → SL → Option Int32) (B : SS) (P : SS) (M : SS) (T : SS) (K : SS) (U : SS) (L : SL) (O : SL) (S : SS) (V : SL) : Option Int32 := (f_X7_nextEnd T K).bind (fun r1 => (f_X8_nextEnd S).bind (fun r2 => (if r1 = r2.1 then k B P M T K U L O r2.2 V else
 some 0)))
def f_law_26 (xs : Nat → Int32) (sL : Nat) (i : Int32) (k : SS → SS → SS → SS → SS → SS → SL → SL → SS → SL → Option Int32) (B : SS) (P : SS) (M : SS) (T : SS) (K : SS) (U : SS) (L : SL) (O : SL) (S : SS) (V : SL) : Option Int32 := (f_X7_entries U).bind (fun r1 => (f_X8_entries S).bind (fun r2 => (if r1 = r2.1 then k B P M T K U L O r2.2 V else
 some 0)))
def f_law_27 (xs : Nat → Int32) (sL : Nat) (i : Int32) (k : SS → SS → SS → SS → SS → SS → SL → SL → SS → SL → Option Int32) (B : SS) (P : SS) (M : SS) (T : SS) (K : SS) (U : SS) (L : SL) (O : SL) (S : SS) (V : SL) : Option Int32 := zix (i + 1) sL ((f_L_kindOf U O (xs (i + 1).toNatClampNeg)).bind (fun r2 => zix (i + 1) sL ((f_X8_kindOf S (xs (i + 1).toNatClampNeg)).bind (fun r4 => (f_X8_thrown r4.2).bind (fun r5 => (if r5 = r2.1 then (if r2.1 = 0 then zix 0 1 ((if (lg_cmp (r2.2 (0 : Int32).toNatClampNeg) ((r4.1).toInt64)) = 0 then k B P M T K U L r2.2 r4.2 V else
 some 0)) else
 k B P M T K U L r2.2 r4.2 V) else
 some 0))))))
def f_law_28 (xs : Nat → Int32) (sL : Nat) (i : Int32) (k : SS → SS → SS → SS → SS → SS → SL → SL → SS → SL → Option Int32) (B : SS) (P : SS) (M : SS) (T : SS) (K : SS) (U : SS) (L : SL) (O : SL) (S : SS) (V : SL) : Option Int32 := zix (i + 1) sL ((f_L_subjectOf U O (xs (i + 1).toNatClampNeg)).bind (fun r2 => zix (i + 1) sL ((f_X8_subjectOf S (xs (i + 1).toNatClampNeg)).bind (fun r4 => (f_X8_thrown r4.2).bind (fun r5 => (if r5 = r2.1 then (if r2.1 = 0 then zix 0 1 ((if (lg_cmp (r2.2 (0 : Int32).toNatClampNeg) ((r4.1).toInt64)) = 0 then k B P M T K U L r2.2 r4.2 V else
 some 0)) else
 k B P M T K U L r2.2 r4.2 V) else
 some 0))))))
def f_law_29 (xs : Nat → Int32) (sL : Nat) (i : Int32) (k : SS → SS → SS → SS → SS → SS → SL → SL → SS → SL → Option Int32) (B : SS) (P : SS) (M : SS) (T : SS) (K : SS) (U : SS) (L : SL) (O : SL) (S : SS) (V : SL) : Option Int32 := zix (i + 1) sL ((f_L_detailOf U O (xs (i + 1).toNatClampNeg)).bind (fun r2 => zix (i + 1) sL ((f_X8_detailOf S (xs (i + 1).toNatClampNeg)).bind (fun r4 => (f_X8_thrown r4.2).bind (fun r5 => (if r5 = r2.1 then (if r2.1 = 0 then zix 0 1 ((if (lg_cmp (r2.2 (0 : Int32).toNatClampNeg) ((r4.1).toInt64)) = 0 then k B P M T K U L r2.2 r4.2 V else
 some 0)) else
 k B P M T K U L r2.2 r4.2 V) else
 some 0))))))
def f_law_30 (xs : Nat → Int32) (sL : Nat) (i : Int32) (k : SS → SS → SS → SS → SS → SS → SL → SL → SS → SL → Option Int32) (B : SS) (P : SS) (M : SS) (T : SS) (K : SS) (U : SS) (L : SL) (O : SL) (S : SS) (V : SL) : Option Int32 := zix (i + 1) sL ((f_L_sumOf U L O (xs (i + 1).toNatClampNeg)).bind (fun r2 => zix (i + 1) sL ((f_X8_sumOf S V (xs (i + 1).toNatClampNeg)).bind (fun r4 => (f_X8_thrown r4.2).bind (fun r5 => (if r5 = r2.1 then (if r2.1 = 0 then zix 0 1 ((if (lg_cmp (r2.2 (0 : Int32).toNatClampNeg) r4.1) = 0 then k B P M T K U L r2.2 r4.2 V else
 some 0)) else
 k B P M T K U L r2.2 r4.2 V) else
 some 0))))))
def f_law_sw (xs : Nat → Int32) (sL : Nat) (i : Int32) (x : Int32) (k : SS → SS → SS → SS → SS → SS → SL → SL → SS → SL → Option Int32) (B : SS) (P : SS) (M : SS) (T : SS) (K : SS) (U : SS) (L : SL) (O : SL) (S : SS) (V : SL) : Option Int32 := (if x = 0 then f_law_0 xs sL i k B P M T K U L O S V else
 (if x = 1 then f_law_1 xs sL i k B P M T K U L O S V else
 (if x = 2 then f_law_2 xs sL i k B P M T K U L O S V else
 (if x = 3 then f_law_3 xs sL i k B P M T K U L O S V else
 (if x = 4 then f_law_4 xs sL i k B P M T K U L O S V else
 (if x = 5 then f_law_5 xs sL i k B P M T K U L O S V else
 (if x = 6 then f_law_6 xs sL i k B P M T K U L O S V else
 (if x = 7 then f_law_7 xs sL i k B P M T K U L O S V else
 (if x = 8 then f_law_8 xs sL i k B P M T K U L O S V else
 (if x = 9 then f_law_9 xs sL i k B P M T K U L O S V else
 (if x = 10 then f_law_10 xs sL i k B P M T K U L O S V else
 (if x = 11 then f_law_11 xs sL i k B P M T K U L O S V else
 (if x = 12 then f_law_12 xs sL i k B P M T K U L O S V else
 (if x = 13 then f_law_13 xs sL i k B P M T K U L O S V else
 (if x = 14 then f_law_14 xs sL i k B P M T K U L O S V else
 (if x = 15 then f_law_15 xs sL i k B P M T K U L O S V else
 (if x = 16 then f_law_16 xs sL i k B P M T K U L O S V else
 (if x = 17 then f_law_17 xs sL i k B P M T K U L O S V else
 (if x = 18 then f_law_18 xs sL i k B P M T K U L O S V else
 (if x = 19 then f_law_19 xs sL i k B P M T K U L O S V else
 (if x = 20 then f_law_20 xs sL i k B P M T K U L O S V else
 (if x = 21 then f_law_21 xs sL i k B P M T K U L O S V else
 (if x = 22 then f_law_22 xs sL i k B P M T K U L O S V else
 (if x = 23 then f_law_23 xs sL i k B P M T K U L O S V else
 (if x = 24 then f_law_24 xs sL i k B P M T K U L O S V else
 (if x = 25 then f_law_25 xs sL i k B P M T K U L O S V else
 (if x = 26 then f_law_26 xs sL i k B P M T K U L O S V else
 (if x = 27 then f_law_27 xs sL i k B P M T K U L O S V else
 (if x = 28 then f_law_28 xs sL i k B P M T K U L O S V else
 (if x = 29 then f_law_29 xs sL i k B P M T K U L O S V else
 (if x = 30 then f_law_30 xs sL i k B P M T K U L O S V else
 k B P M T K U L O S V)))))))))))))))))))))))))))))))
def f_law_lp (xs : Nat → Int32) (sL : Nat) : Nat → Int32 → SS → SS → SS → SS → SS → SS → SL → SL → SS → SL → Option Int32
  | 0, _, _, _, _, _, _, _, _, _, _, _ => none
  | n + 1, i, B, P, M, T, K, U, L, O, S, V => (if Int32.ofNat sL - 6 < i then some 1 else zix i sL (f_law_sw xs sL i ((xs i.toNatClampNeg) &&& 31) (f_law_lp xs sL n (i + 6)) B P M T K U L O S V))
