def f_L_low (x1 : Int32) (x2 : Int32) : Option (Int32) := zne x2 (some ((x1 &&& 2147483647) - (x1 &&& 2147483647) / x2 * x2))
def f_L_ten_4 : Nat → Int32 → Int32 → Int32 → Option (Int32)
  | 0, _, _, _ => none
  | n + 1, v0, v1, v2 => (if v0 ≤ v2 then some v1 else
 f_L_ten_4 n v0 (v1 * 10) (v2 + 1))
def f_L_ten (x1 : Int32) : Option (Int32) := f_L_ten_4 600 x1 1 0
def f_L_digits_2 : Nat → Int32 → Int32 → Option (Int32)
  | 0, _, _ => none
  | n + 1, v0, v1 => (f_L_ten v1).bind (fun r1 => (if v0 < r1 then some v1 else
 f_L_digits_2 n v0 (v1 + 1)))
def f_L_digits (x1 : Int32) : Option (Int32) := f_L_digits_2 600 x1 0
def f_L_isBelow (x1 : Int32) (x2 : Int32) : Option (Int32) := (f_L_digits x1).bind (fun r1 => (f_L_digits x2).bind (fun r2 => (if (r1 - r2) < 0 then some 0 else
 (f_L_ten (r1 - r2)).bind (fun r4 => zne r4 ((if (x1 / r4) = x2 then some 1 else
 some 0))))))
def f_L_fit_35 : Nat → Int32 → Int32 → Int32 → Int32 → Int32 → Int32 → Int32 → Option (Int32)
  | 0, _, _, _, _, _, _, _ => none
  | n + 1, v0, v1, v2, v3, v4, v5, v6 => (if v3 ≤ v6 then some ((((((2 * v3) + 1) - v1) * 64) + 63) - v5) else
 (f_L_ten v6).bind (fun r6 => zne r6 ((if ((v0 / r6) - (v0 / r6) / 10 * 10) = 9 then (if ((v0 / r6) - (v0 / r6) / 10 * 10) = 9 then f_L_fit_35 n v0 v1 v2 v3 v4 (v5 + (1 <<< (v6 &&& 31))) (v6 + 1) else
 f_L_fit_35 n v0 v1 v2 v3 v4 (v5 + 0) (v6 + 1)) else
 (f_L_ten (v4 + v6)).bind (fun r10 => zne r10 ((if ((v0 / r6) - (v0 / r6) / 10 * 10) = ((v2 / r10) - (v2 / r10) / 10 * 10) then (if ((v0 / r6) - (v0 / r6) / 10 * 10) = 9 then f_L_fit_35 n v0 v1 v2 v3 v4 (v5 + (1 <<< (v6 &&& 31))) (v6 + 1) else
 f_L_fit_35 n v0 v1 v2 v3 v4 (v5 + 0) (v6 + 1)) else
 some 0)))))))
def f_L_fit (x1 : Int32) (x2 : Int32) (x3 : Int32) : Option (Int32) := (f_L_digits x1).bind (fun r1 => (f_L_digits x3).bind (fun r2 => (if (r2 - r1) < 0 then some 0 else
 (if x2 = 0 then (if (r2 - r1) ≤ 0 then f_L_fit_35 600 x1 x2 x3 r1 (r2 - r1) 0 0 else
 some 0) else
 f_L_fit_35 600 x1 x2 x3 r1 (r2 - r1) 0 0))))
def f_L_can_32 (W : SS) (k13 : Int32 → Int32 → Int32 → Int32 → Option (Int32)) : Nat → Int32 → Int32 → Int32 → Int32 → Int32 → Int32 → Int32 → Option (Int32)
  | 0, _, _, _, _, _, _, _ => none
  | n + 1, v0, v1, v6, v7, v8, v9, v10 => zix v7 3 ((if ((6 * v7) + ((W 5) v7.toNatClampNeg)) ≤ v10 then zix ((5 * v0) + 1) 60 ((if ((((W 1) ((5 * v0) + 1).toNatClampNeg) >>> (v7 &&& 31)) &&& 1) = 0 then k13 v0 v1 (v6 ||| 0) (v7 + 1) else
 k13 v0 v1 (v6 ||| v9) (v7 + 1))) else
 zix v10 18 (zix v10 18 ((f_L_fit (((W 3) v10.toNatClampNeg) / 10) (((W 3) v10.toNatClampNeg) - ((W 3) v10.toNatClampNeg) / 10 * 10) v1).bind (fun r10 => (if r10 ≤ v8 then (if r10 ≤ v8 then f_L_can_32 W k13 n v0 v1 v6 v7 v8 v9 (v10 + 1) else
 f_L_can_32 W k13 n v0 v1 v6 v7 r10 v9 (v10 + 1)) else
 zix v10 18 ((if r10 ≤ v8 then f_L_can_32 W k13 n v0 v1 v6 v7 v8 ((W 4) v10.toNatClampNeg) (v10 + 1) else
 f_L_can_32 W k13 n v0 v1 v6 v7 r10 ((W 4) v10.toNatClampNeg) (v10 + 1)))))))))
def f_L_can_13 (W : SS) : Nat → Int32 → Int32 → Int32 → Int32 → Option (Int32)
  | 0, _, _, _, _ => none
  | n + 1, v0, v1, v6, v7 => (if 3 ≤ v7 then (if v6 ≤ 7 then some v6 else
 some 0) else
 f_L_can_32 W (f_L_can_13 W n) 600 v0 v1 v6 v7 0 0 (6 * v7))
def f_L_can (W : SS) (x1 : Int32) (x2 : Int32) : Option (Int32) := (if x1 = 0 then some 7 else
 f_L_can_13 W 600 x1 x2 0 0)
def f_L_lives_2 (W : SS) : Nat → Int32 → Option (Int32)
  | 0, _ => none
  | n + 1, v3 => (if v3 ≤ 0 then (if 0 < v3 then some 0 else
 some 1) else
 zix ((5 * v3) + 2) 60 (zix 0 6 ((if ((W 1) ((5 * v3) + 2).toNatClampNeg) ≤ ((W 0) (0 : Int32).toNatClampNeg) then (if 0 < v3 then some 0 else
 some 1) else
 zix ((5 * v3) + 3) 60 ((if ((W 1) ((5 * v3) + 3).toNatClampNeg) < 0 then (if 0 < v3 then some 0 else
 some 1) else
 zix (5 * v3) 60 (f_L_lives_2 W n ((W 1) (5 * v3).toNatClampNeg))))))))
def f_L_lives (W : SS) (x1 : Int32) : Option (Int32) := f_L_lives_2 W 600 x1
def f_L_works (W : SS) (x1 : Int32) : Option (Int32) := zix ((5 * x1) + 4) 60 ((if ((W 2) ((5 * x1) + 4).toNatClampNeg) = 0 then zix ((5 * x1) + 2) 60 (zix 0 6 ((if ((W 2) ((5 * x1) + 2).toNatClampNeg) ≤ ((W 0) (0 : Int32).toNatClampNeg) then some 0 else
 zix (5 * x1) 60 ((f_L_lives W ((W 2) (5 * x1).toNatClampNeg)).bind (fun r7 => (if r7 = 0 then some 0 else
 some 1)))))) else
 some 0))
def f_L_living_4 (W : SS) : Nat → Int32 → Int32 → Option (Int32)
  | 0, _, _ => none
  | n + 1, v2, v3 => zix 3 6 ((if ((W 0) (3 : Int32).toNatClampNeg) ≤ v3 then some v2 else
 (f_L_lives W v3).bind (fun r3 => (if r3 = 0 then f_L_living_4 W n (v2 + 0) (v3 + 1) else
 f_L_living_4 W n (v2 + 1) (v3 + 1)))))
def f_L_living (W : SS) : Option (Int32) := f_L_living_4 W 600 0 0
def f_L_working_5 (W : SS) : Nat → Int32 → Int32 → Option (Int32)
  | 0, _, _ => none
  | n + 1, v3, v4 => zix 4 6 ((if ((W 0) (4 : Int32).toNatClampNeg) ≤ v4 then some v3 else
 (f_L_works W v4).bind (fun r3 => (if r3 = 0 then f_L_working_5 W n (v3 + 0) (v4 + 1) else
 f_L_working_5 W n (v3 + 1) (v4 + 1)))))
def f_L_working (W : SS) : Option (Int32) := f_L_working_5 W 600 0 0
def f_L_mountFor_5 (W : SS) : Nat → Int32 → Int32 → Int32 → Option (Int32)
  | 0, _, _, _ => none
  | n + 1, v0, v3, v4 => zix 2 6 ((if ((W 0) (2 : Int32).toNatClampNeg) ≤ v4 then some v3 else
 zix (3 * v4) 12 ((f_L_isBelow v0 ((W 6) (3 * v4).toNatClampNeg)).bind (fun r4 => (if r4 = 0 then f_L_mountFor_5 W n v0 v3 (v4 + 1) else
 (if v3 < 0 then f_L_mountFor_5 W n v0 v4 (v4 + 1) else
 zix (3 * v4) 12 (zix (3 * v3) 12 ((if ((W 6) (3 * v4).toNatClampNeg) ≤ ((W 6) (3 * v3).toNatClampNeg) then f_L_mountFor_5 W n v0 v3 (v4 + 1) else
 f_L_mountFor_5 W n v0 v4 (v4 + 1))))))))))
def f_L_mountFor (W : SS) (x1 : Int32) : Option (Int32) := f_L_mountFor_5 W 600 x1 (-1) 0
def f_L_why (W : SS) (x1 : Int32) (x2 : Int32) : Option (Int32) := (f_L_lives W x1).bind (fun r1 => (if r1 = 0 then some 1 else
 zix ((5 * x1) + 4) 60 ((if ((W 1) ((5 * x1) + 4).toNatClampNeg) = 0 then some 2 else
 (f_L_mountFor W x2).bind (fun r5 => (if 0 ≤ r5 then (f_L_can W x1 x2).bind (fun r7 => (if (r7 - r7 / 2 * 2) = 0 then some 4 else
 some 0)) else
 some 3))))))
def f_L_refused (B : SS) (P : SS) (M : SS) (T : SS) (K : SS) (U : SS) (L : SL) (x2 : Int32) (x3 : Int32) (x4 : Int32) (x5 : Int32) : Option (Int32 × SS × SS × SS × SL) := (if x2 = 0 then zca (f_X7_create B P T U L x3 x4 x5 x5 0) (fun Er65 => if Er65 = "java/lang/IllegalArgumentException" then some (1, T, K, U, L) else if Er65 = "java/lang/IllegalStateException" then some (2, T, K, U, L) else if Er65 = "java/lang/IndexOutOfBoundsException" then some (3, T, K, U, L) else none) (fun r65 => some ((r65.1 * 0), r65.2.1, K, r65.2.2.1, r65.2.2.2)) else
 (if x2 = 1 then zca (f_X7_renew B T U L x3 x4) (fun Er58 => if Er58 = "java/lang/IllegalArgumentException" then some (1, T, K, U, L) else if Er58 = "java/lang/IllegalStateException" then some (2, T, K, U, L) else if Er58 = "java/lang/IndexOutOfBoundsException" then some (3, T, K, U, L) else none) (fun r58 => some ((r58.1 * 0), r58.2.1, K, r58.2.2.1, r58.2.2.2)) else
 (if x2 = 2 then zca (f_X7_revoke B T K U L x3) (fun Er51 => if Er51 = "java/lang/IllegalArgumentException" then some (1, T, K, U, L) else if Er51 = "java/lang/IllegalStateException" then some (2, T, K, U, L) else if Er51 = "java/lang/IndexOutOfBoundsException" then some (3, T, K, U, L) else none) (fun r51 => some ((r51.1 * 0), r51.2.1, r51.2.2.1, r51.2.2.2.1, r51.2.2.2.2)) else
 (if x2 = 3 then zca (f_X7_revokeAlone B T K U L x3) (fun Er44 => if Er44 = "java/lang/IllegalArgumentException" then some (1, T, K, U, L) else if Er44 = "java/lang/IllegalStateException" then some (2, T, K, U, L) else if Er44 = "java/lang/IndexOutOfBoundsException" then some (3, T, K, U, L) else none) (fun r44 => some ((r44.1 * 0), r44.2.1, r44.2.2.1, r44.2.2.2.1, r44.2.2.2.2)) else
 (if x2 = 4 then zca (f_X7_renewCredential B K U L x3 x4) (fun Er37 => if Er37 = "java/lang/IllegalArgumentException" then some (1, T, K, U, L) else if Er37 = "java/lang/IllegalStateException" then some (2, T, K, U, L) else if Er37 = "java/lang/IndexOutOfBoundsException" then some (3, T, K, U, L) else none) (fun r37 => some ((r37.1 * 0), T, r37.2.1, r37.2.2.1, r37.2.2.2)) else
 (if x2 = 5 then zca (f_X7_credentialsOf T K x3) (fun Er30 => if Er30 = "java/lang/IllegalArgumentException" then some (1, T, K, U, L) else if Er30 = "java/lang/IllegalStateException" then some (2, T, K, U, L) else if Er30 = "java/lang/IndexOutOfBoundsException" then some (3, T, K, U, L) else none) (fun r30 => some ((r30 * 0), T, K, U, L)) else
 (if x2 = 6 then zca (f_X7_endOfCredential K x3) (fun Er23 => if Er23 = "java/lang/IllegalArgumentException" then some (1, T, K, U, L) else if Er23 = "java/lang/IllegalStateException" then some (2, T, K, U, L) else if Er23 = "java/lang/IndexOutOfBoundsException" then some (3, T, K, U, L) else none) (fun r23 => some ((r23 * 0), T, K, U, L)) else
 (if x2 = 7 then zca (f_X7_request B P M T K U L x3 x4) (fun Er16 => if Er16 = "java/lang/IllegalArgumentException" then some (1, T, K, U, L) else if Er16 = "java/lang/IllegalStateException" then some (2, T, K, U, L) else if Er16 = "java/lang/IndexOutOfBoundsException" then some (3, T, K, U, L) else none) (fun r16 => some ((r16.1 * 0), r16.2.1, r16.2.2.1, r16.2.2.2.1, r16.2.2.2.2)) else
 zca (f_X7_kindOf U x3) (fun Er9 => if Er9 = "java/lang/IllegalArgumentException" then some (1, T, K, U, L) else if Er9 = "java/lang/IllegalStateException" then some (2, T, K, U, L) else if Er9 = "java/lang/IndexOutOfBoundsException" then some (3, T, K, U, L) else none) (fun r9 => some ((r9 * 0), T, K, U, L))))))))))
def f_L_writes (U : SS) (L : SL) (W : SS) (O : SL) (x2 : Int32) (x3 : Int32) (x4 : Int32) : Option (Int32 × SS × SL) := zix 0 1 (zix 0 6 (zix 0 1 (zix 5 6 (zix 5 6 ((f_X7_entries U).bind (fun r6 => (if r6 = (((W 0) (5 : Int32).toNatClampNeg) + 1) then zok (f_X7_kindOf U ((W 0) (5 : Int32).toNatClampNeg)) (fun r8 => (if r8 = x2 then zok (f_X7_subjectOf U ((W 0) (5 : Int32).toNatClampNeg)) (fun r10 => (if r10 = x3 then zok (f_X7_detailOf U ((W 0) (5 : Int32).toNatClampNeg)) (fun r12 => (if r12 = x4 then zok (f_X7_sumOf U L ((W 0) (5 : Int32).toNatClampNeg)) (fun r14 => zix 0 1 ((if (lg_cmp r14 ((vp_updL O (0 : Int32).toNatClampNeg ((((((31 * (O (0 : Int32).toNatClampNeg)) + (((7 * x2)).toInt64)) + (((5 * x3)).toInt64)) + (((3 * x4)).toInt64)) + ((((W 0) (0 : Int32).toNatClampNeg)).toInt64)) - (((((31 * (O (0 : Int32).toNatClampNeg)) + (((7 * x2)).toInt64)) + (((5 * x3)).toInt64)) + (((3 * x4)).toInt64)) + ((((W 0) (0 : Int32).toNatClampNeg)).toInt64)) / 1000003 * 1000003)) (0 : Int32).toNatClampNeg)) = 0 then some (1, (za W 0 5 (((W 0) (5 : Int32).toNatClampNeg) + 1)), (vp_updL O (0 : Int32).toNatClampNeg ((((((31 * (O (0 : Int32).toNatClampNeg)) + (((7 * x2)).toInt64)) + (((5 * x3)).toInt64)) + (((3 * x4)).toInt64)) + ((((W 0) (0 : Int32).toNatClampNeg)).toInt64)) - (((((31 * (O (0 : Int32).toNatClampNeg)) + (((7 * x2)).toInt64)) + (((5 * x3)).toInt64)) + (((3 * x4)).toInt64)) + ((((W 0) (0 : Int32).toNatClampNeg)).toInt64)) / 1000003 * 1000003))) else
 some (0, (za W 0 5 (((W 0) (5 : Int32).toNatClampNeg) + 1)), (vp_updL O (0 : Int32).toNatClampNeg ((((((31 * (O (0 : Int32).toNatClampNeg)) + (((7 * x2)).toInt64)) + (((5 * x3)).toInt64)) + (((3 * x4)).toInt64)) + ((((W 0) (0 : Int32).toNatClampNeg)).toInt64)) - (((((31 * (O (0 : Int32).toNatClampNeg)) + (((7 * x2)).toInt64)) + (((5 * x3)).toInt64)) + (((3 * x4)).toInt64)) + ((((W 0) (0 : Int32).toNatClampNeg)).toInt64)) / 1000003 * 1000003)))))) else
 some (0, (za W 0 5 (((W 0) (5 : Int32).toNatClampNeg) + 1)), (vp_updL O (0 : Int32).toNatClampNeg ((((((31 * (O (0 : Int32).toNatClampNeg)) + (((7 * x2)).toInt64)) + (((5 * x3)).toInt64)) + (((3 * x4)).toInt64)) + ((((W 0) (0 : Int32).toNatClampNeg)).toInt64)) - (((((31 * (O (0 : Int32).toNatClampNeg)) + (((7 * x2)).toInt64)) + (((5 * x3)).toInt64)) + (((3 * x4)).toInt64)) + ((((W 0) (0 : Int32).toNatClampNeg)).toInt64)) / 1000003 * 1000003))))) else
 some (0, (za W 0 5 (((W 0) (5 : Int32).toNatClampNeg) + 1)), (vp_updL O (0 : Int32).toNatClampNeg ((((((31 * (O (0 : Int32).toNatClampNeg)) + (((7 * x2)).toInt64)) + (((5 * x3)).toInt64)) + (((3 * x4)).toInt64)) + ((((W 0) (0 : Int32).toNatClampNeg)).toInt64)) - (((((31 * (O (0 : Int32).toNatClampNeg)) + (((7 * x2)).toInt64)) + (((5 * x3)).toInt64)) + (((3 * x4)).toInt64)) + ((((W 0) (0 : Int32).toNatClampNeg)).toInt64)) / 1000003 * 1000003))))) else
 some (0, (za W 0 5 (((W 0) (5 : Int32).toNatClampNeg) + 1)), (vp_updL O (0 : Int32).toNatClampNeg ((((((31 * (O (0 : Int32).toNatClampNeg)) + (((7 * x2)).toInt64)) + (((5 * x3)).toInt64)) + (((3 * x4)).toInt64)) + ((((W 0) (0 : Int32).toNatClampNeg)).toInt64)) - (((((31 * (O (0 : Int32).toNatClampNeg)) + (((7 * x2)).toInt64)) + (((5 * x3)).toInt64)) + (((3 * x4)).toInt64)) + ((((W 0) (0 : Int32).toNatClampNeg)).toInt64)) / 1000003 * 1000003))))) else
 some (0, (za W 0 5 (((W 0) (5 : Int32).toNatClampNeg) + 1)), (vp_updL O (0 : Int32).toNatClampNeg ((((((31 * (O (0 : Int32).toNatClampNeg)) + (((7 * x2)).toInt64)) + (((5 * x3)).toInt64)) + (((3 * x4)).toInt64)) + ((((W 0) (0 : Int32).toNatClampNeg)).toInt64)) - (((((31 * (O (0 : Int32).toNatClampNeg)) + (((7 * x2)).toInt64)) + (((5 * x3)).toInt64)) + (((3 * x4)).toInt64)) + ((((W 0) (0 : Int32).toNatClampNeg)).toInt64)) / 1000003 * 1000003))))))))))
def f_L_same_335 (B : SS) (P : SS) (M : SS) (W : SS) : Nat → SS → SS → SS → SL → Int32 → Int32 → Int32 → Int32 → Int32 → Option (Int32 × SS × SS × SS × SL)
  | 0, _, _, _, _, _, _, _, _, _ => none
  | n + 1, Tc, Kc, Uc, Lc, v5, v6, v7, v8, v9 => zix 4 6 ((if ((W 0) (4 : Int32).toNatClampNeg) ≤ v9 then zok (f_X7_below Tc v6) (fun r11 => (if r11 = v7 then zok (f_X7_credentialsOf Tc Kc v6) (fun r13 => (if r13 = v8 then zix 3 6 ((f_L_refused B P M Tc Kc Uc Lc 5 ((W 0) (3 : Int32).toNatClampNeg) 0 0).bind (fun r16 => (if r16.1 = 3 then zix 4 6 ((f_L_refused B P M r16.2.1 r16.2.2.1 r16.2.2.2.1 r16.2.2.2.2 6 ((W 0) (4 : Int32).toNatClampNeg) 0 0).bind (fun r19 => (if r19.1 = 3 then zix 5 6 ((f_L_refused B P M r19.2.1 r19.2.2.1 r19.2.2.2.1 r19.2.2.2.2 8 ((W 0) (5 : Int32).toNatClampNeg) 0 0).bind (fun r22 => (if r22.1 = 3 then (f_X7_tokens r22.2.1).bind (fun r24 => (f_L_living W).bind (fun r25 => (if r24 = r25 then (f_X7_credentials r22.2.2.1).bind (fun r27 => (f_L_working W).bind (fun r28 => (if r27 = r28 then (f_X7_nextEnd r22.2.1 r22.2.2.1).bind (fun r30 => (if r30 = v5 then (f_X7_time B).bind (fun r32 => zix 0 6 ((if r32 = ((W 0) (0 : Int32).toNatClampNeg) then (f_X7_entries r22.2.2.2.1).bind (fun r35 => zix 5 6 ((if r35 = ((W 0) (5 : Int32).toNatClampNeg) then some (1, r22.2.1, r22.2.2.1, r22.2.2.2.1, r22.2.2.2.2) else
 some (0, r22.2.1, r22.2.2.1, r22.2.2.2.1, r22.2.2.2.2)))) else
 some (0, r22.2.1, r22.2.2.1, r22.2.2.2.1, r22.2.2.2.2)))) else
 some (0, r22.2.1, r22.2.2.1, r22.2.2.2.1, r22.2.2.2.2))) else
 some (0, r22.2.1, r22.2.2.1, r22.2.2.2.1, r22.2.2.2.2)))) else
 some (0, r22.2.1, r22.2.2.1, r22.2.2.2.1, r22.2.2.2.2)))) else
 some (0, r22.2.1, r22.2.2.1, r22.2.2.2.1, r22.2.2.2.2)))) else
 some (0, r19.2.1, r19.2.2.1, r19.2.2.2.1, r19.2.2.2.2)))) else
 some (0, r16.2.1, r16.2.2.1, r16.2.2.2.1, r16.2.2.2.2)))) else
 some (0, Tc, Kc, Uc, Lc))) else
 some (0, Tc, Kc, Uc, Lc))) else
 zix (5 * v9) 60 ((if ((W 2) (5 * v9).toNatClampNeg) = v6 then (f_L_works W v9).bind (fun r40 => (if r40 = 0 then f_L_same_335 B P M W n Tc Kc Uc Lc v5 v6 v7 (v8 + 0) (v9 + 1) else
 f_L_same_335 B P M W n Tc Kc Uc Lc v5 v6 v7 (v8 + 1) (v9 + 1))) else
 f_L_same_335 B P M W n Tc Kc Uc Lc v5 v6 v7 (v8 + 0) (v9 + 1)))))
def f_L_same_286 (B : SS) (P : SS) (M : SS) (W : SS) (k256 : SS → SS → SS → SL → Int32 → Int32 → Int32 → Int32 → Int32 → Option (Int32 × SS × SS × SS × SL)) : Nat → SS → SS → SS → SL → Int32 → Int32 → Int32 → Int32 → Int32 → Int32 → Option (Int32 × SS × SS × SS × SL)
  | 0, _, _, _, _, _, _, _, _, _, _ => none
  | n + 1, Tc, Kc, Uc, Lc, v5, v6, v7, v8, v9, v10 => (if v10 < 0 then (if v10 = v6 then k256 Tc Kc Uc Lc v5 v6 (v7 + 1) v8 (v9 + 1) else
 k256 Tc Kc Uc Lc v5 v6 (v7 + 0) v8 (v9 + 1)) else
 (if v10 = v6 then (if v10 = v6 then k256 Tc Kc Uc Lc v5 v6 (v7 + 1) v8 (v9 + 1) else
 k256 Tc Kc Uc Lc v5 v6 (v7 + 0) v8 (v9 + 1)) else
 zix (5 * v10) 60 (f_L_same_286 B P M W k256 n Tc Kc Uc Lc v5 v6 v7 v8 v9 ((W 1) (5 * v10).toNatClampNeg))))
def f_L_same_256 (B : SS) (P : SS) (M : SS) (W : SS) : Nat → SS → SS → SS → SL → Int32 → Int32 → Int32 → Int32 → Int32 → Option (Int32 × SS × SS × SS × SL)
  | 0, _, _, _, _, _, _, _, _, _ => none
  | n + 1, Tc, Kc, Uc, Lc, v5, v6, v7, v8, v9 => zix 3 6 ((if ((W 0) (3 : Int32).toNatClampNeg) ≤ v9 then f_L_same_335 B P M W 600 Tc Kc Uc Lc v5 v6 v7 v8 0 else
 (f_L_lives W v9).bind (fun r42 => (if r42 = 0 then f_L_same_286 B P M W (f_L_same_256 B P M W n) 600 Tc Kc Uc Lc v5 v6 v7 v8 v9 (-1) else
 zix (5 * v9) 60 (f_L_same_286 B P M W (f_L_same_256 B P M W n) 600 Tc Kc Uc Lc v5 v6 v7 v8 v9 ((W 1) (5 * v9).toNatClampNeg))))))
def f_L_same_142 (B : SS) (P : SS) (M : SS) (W : SS) : Nat → SS → SS → SS → SL → Int32 → Int32 → Int32 → Option (Int32 × SS × SS × SS × SL)
  | 0, _, _, _, _, _, _, _ => none
  | n + 1, Tc, Kc, Uc, Lc, v1, v5, v6 => zix 4 6 ((if ((W 0) (4 : Int32).toNatClampNeg) ≤ v6 then zix 3 6 ((f_L_low v1 ((W 0) (3 : Int32).toNatClampNeg)).bind (fun r6 => f_L_same_256 B P M W 600 Tc Kc Uc Lc v5 r6 0 0 1)) else
 (f_L_works W v6).bind (fun r50 => zok (f_X7_works Kc v6) (fun r51 => (if r51 = r50 then zok (f_X7_endOfCredential Kc v6) (fun r53 => zix ((5 * v6) + 2) 60 ((if r53 = ((W 2) ((5 * v6) + 2).toNatClampNeg) then (if r50 = 0 then f_L_same_142 B P M W n Tc Kc Uc Lc v1 v5 (v6 + 1) else
 (if v5 < 0 then zix ((5 * v6) + 2) 60 (f_L_same_142 B P M W n Tc Kc Uc Lc v1 ((W 2) ((5 * v6) + 2).toNatClampNeg) (v6 + 1)) else
 zix ((5 * v6) + 2) 60 ((if v5 ≤ ((W 2) ((5 * v6) + 2).toNatClampNeg) then f_L_same_142 B P M W n Tc Kc Uc Lc v1 v5 (v6 + 1) else
 zix ((5 * v6) + 2) 60 (f_L_same_142 B P M W n Tc Kc Uc Lc v1 ((W 2) ((5 * v6) + 2).toNatClampNeg) (v6 + 1)))))) else
 some (0, Tc, Kc, Uc, Lc)))) else
 some (0, Tc, Kc, Uc, Lc))))))
def f_L_same_6 (B : SS) (P : SS) (M : SS) (W : SS) : Nat → SS → SS → SS → SL → Int32 → Int32 → Int32 → Option (Int32 × SS × SS × SS × SL)
  | 0, _, _, _, _, _, _, _ => none
  | n + 1, Tc, Kc, Uc, Lc, v1, v5, v6 => zix 3 6 ((if ((W 0) (3 : Int32).toNatClampNeg) ≤ v6 then f_L_same_142 B P M W 600 Tc Kc Uc Lc v1 v5 0 else
 (f_L_lives W v6).bind (fun r62 => zok (f_X7_isAlive Tc v6) (fun r63 => (if r63 = r62 then zok (f_X7_parentOf Tc v6) (fun r65 => zix (5 * v6) 60 ((if r65 = ((W 1) (5 * v6).toNatClampNeg) then zok (f_X7_endOf Tc v6) (fun r68 => zix ((5 * v6) + 2) 60 ((if r68 = ((W 1) ((5 * v6) + 2).toNatClampNeg) then zok (f_X7_usesLeft Tc v6) (fun r71 => zix ((5 * v6) + 4) 60 ((if r71 = ((W 1) ((5 * v6) + 4).toNatClampNeg) then (if r62 = 0 then f_L_same_6 B P M W n Tc Kc Uc Lc v1 v5 (v6 + 1) else
 (if v6 ≤ 0 then f_L_same_6 B P M W n Tc Kc Uc Lc v1 v5 (v6 + 1) else
 (if v5 < 0 then zix ((5 * v6) + 2) 60 (f_L_same_6 B P M W n Tc Kc Uc Lc v1 ((W 1) ((5 * v6) + 2).toNatClampNeg) (v6 + 1)) else
 zix ((5 * v6) + 2) 60 ((if v5 ≤ ((W 1) ((5 * v6) + 2).toNatClampNeg) then f_L_same_6 B P M W n Tc Kc Uc Lc v1 v5 (v6 + 1) else
 zix ((5 * v6) + 2) 60 (f_L_same_6 B P M W n Tc Kc Uc Lc v1 ((W 1) ((5 * v6) + 2).toNatClampNeg) (v6 + 1))))))) else
 some (0, Tc, Kc, Uc, Lc)))) else
 (if 0 < v6 then some (0, Tc, Kc, Uc, Lc) else
 zok (f_X7_usesLeft Tc v6) (fun r82 => zix ((5 * v6) + 4) 60 ((if r82 = ((W 1) ((5 * v6) + 4).toNatClampNeg) then (if r62 = 0 then f_L_same_6 B P M W n Tc Kc Uc Lc v1 v5 (v6 + 1) else
 (if v6 ≤ 0 then f_L_same_6 B P M W n Tc Kc Uc Lc v1 v5 (v6 + 1) else
 (if v5 < 0 then zix ((5 * v6) + 2) 60 (f_L_same_6 B P M W n Tc Kc Uc Lc v1 ((W 1) ((5 * v6) + 2).toNatClampNeg) (v6 + 1)) else
 zix ((5 * v6) + 2) 60 ((if v5 ≤ ((W 1) ((5 * v6) + 2).toNatClampNeg) then f_L_same_6 B P M W n Tc Kc Uc Lc v1 v5 (v6 + 1) else
 zix ((5 * v6) + 2) 60 (f_L_same_6 B P M W n Tc Kc Uc Lc v1 ((W 1) ((5 * v6) + 2).toNatClampNeg) (v6 + 1))))))) else
 some (0, Tc, Kc, Uc, Lc)))))))) else
 some (0, Tc, Kc, Uc, Lc)))) else
 some (0, Tc, Kc, Uc, Lc))))))
def f_L_same (B : SS) (P : SS) (M : SS) (T : SS) (K : SS) (U : SS) (L : SL) (W : SS) (x2 : Int32) : Option (Int32 × SS × SS × SS × SL) := f_L_same_6 B P M W 600 T K U L x2 (-1) 0
def f_L_path_16 : Nat → Int32 → Int32 → Int32 → Int32 → Option (Int32)
  | 0, _, _, _, _ => none
  | n + 1, v0, v1, v2, v3 => (if v3 ≤ 0 then some v2 else
 (f_L_low (v0 >>> ((3 + (3 * v3)) &&& 31)) v1).bind (fun r4 => f_L_path_16 n v0 v1 (((10 * v2) + 1) + r4) (v3 + (-1))))
def f_L_path (x1 : Int32) (x2 : Int32) : Option (Int32) := (f_L_low x1 x2).bind (fun r1 => (f_L_low (x1 >>> (3 &&& 31)) 4).bind (fun r2 => f_L_path_16 600 x1 x2 (1 + r1) r2))
