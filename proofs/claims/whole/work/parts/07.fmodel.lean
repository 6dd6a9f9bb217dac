def f_X8_thrown (S : SS) : Option (Int32) := some (S 0 0)
def f_X8_writes (S : SS) (V : SL) (x1 : Int32) (x2 : Int32) (x3 : Int32) : Option (SS × SL) := zix (S 26 0) 520 (zix (S 26 0) 520 (zix (S 26 0) 520 ((if (S 26 0) = 0 then zix (S 26 0) 520 (some ((zs (za (za (za S 27 (S 26 0) x1) 28 (S 26 0) x2) 29 (S 26 0) x3) 26 ((S 26 0) + 1)), (vp_updL V (S 26 0).toNatClampNeg ((((((31 * 17) + (7 * ((x1).toInt64))) + (5 * ((x2).toInt64))) + (3 * ((x3).toInt64))) + (((S 1 0)).toInt64)) - (((((31 * 17) + (7 * ((x1).toInt64))) + (5 * ((x2).toInt64))) + (3 * ((x3).toInt64))) + (((S 1 0)).toInt64)) / 1000003 * 1000003)))) else
 zix ((S 26 0) - 1) 520 (zix (S 26 0) 520 (some ((zs (za (za (za S 27 (S 26 0) x1) 28 (S 26 0) x2) 29 (S 26 0) x3) 26 ((S 26 0) + 1)), (vp_updL V (S 26 0).toNatClampNeg ((((((31 * (V ((S 26 0) - 1).toNatClampNeg)) + (7 * ((x1).toInt64))) + (5 * ((x2).toInt64))) + (3 * ((x3).toInt64))) + (((S 1 0)).toInt64)) - (((((31 * (V ((S 26 0) - 1).toNatClampNeg)) + (7 * ((x1).toInt64))) + (5 * ((x2).toInt64))) + (3 * ((x3).toInt64))) + (((S 1 0)).toInt64)) / 1000003 * 1000003)))))))))
def f_X8_digits_4 : Nat → Int32 → Int32 → Option (Int32)
  | 0, _, _ => none
  | n + 1, v1, v2 => (if v2 ≤ 0 then some v1 else
 f_X8_digits_4 n (v1 + 1) (v2 / 10))
def f_X8_digits (x1 : Int32) : Option (Int32) := f_X8_digits_4 600 0 x1
def f_X8_upper_7 : Nat → Int32 → Int32 → Int32 → Option (Int32)
  | 0, _, _, _ => none
  | n + 1, v1, v2, v3 => (if v3 ≤ v1 then some v2 else
 f_X8_upper_7 n v1 (v2 / 10) (v3 + (-1)))
def f_X8_upper (x1 : Int32) (x2 : Int32) : Option (Int32) := (f_X8_digits x1).bind (fun r1 => f_X8_upper_7 600 x2 x1 r1)
def f_X8_digit (x1 : Int32) (x2 : Int32) : Option (Int32) := (f_X8_upper x1 (x2 + 1)).bind (fun r1 => some (r1 - r1 / 10 * 10))
def f_X8_isWritten_21 : Nat → Int32 → Int32 → Int32 → Option (Int32)
  | 0, _, _, _ => none
  | n + 1, v1, v2, v3 => (if v3 ≤ 0 then zbo v2 (some v2) else
 (if v2 = 0 then f_X8_isWritten_21 n v1 0 (v3 / 10) else
 (if (v3 - v3 / 10 * 10) < 1 then f_X8_isWritten_21 n v1 0 (v3 / 10) else
 (if v1 < (v3 - v3 / 10 * 10) then f_X8_isWritten_21 n v1 0 (v3 / 10) else
 f_X8_isWritten_21 n v1 1 (v3 / 10)))))
def f_X8_isWritten (x1 : Int32) (x2 : Int32) : Option (Int32) := (if x1 ≤ 0 then f_X8_isWritten_21 600 x2 0 x1 else
 (f_X8_digits x1).bind (fun r7 => (if 6 < r7 then f_X8_isWritten_21 600 x2 0 x1 else
 f_X8_isWritten_21 600 x2 1 x1)))
def f_X8_isPath (x1 : Int32) : Option (Int32) := (f_X8_isWritten x1 8).bind (fun r1 => zbo r1 (some r1))
def f_X8_isBelow (x1 : Int32) (x2 : Int32) : Option (Int32) := (f_X8_digits x1).bind (fun r1 => (f_X8_digits x2).bind (fun r2 => (if r1 < r2 then some 0 else
 (f_X8_digits x2).bind (fun r4 => (f_X8_upper x1 r4).bind (fun r5 => (if r5 = x2 then some 1 else
 some 0))))))
def f_X8_fits_53 (S : SS) : Nat → Int32 → Int32 → Int32 → Int32 → Int32 → Option (Int32)
  | 0, _, _, _, _, _ => none
  | n + 1, v1, v2, v3, v4, v5 => (if v3 ≤ v5 then zbo v4 (some v4) else
 (if v4 = 0 then zbo v4 (some v4) else
 zix v1 48 ((f_X8_digit ((S 4) v1.toNatClampNeg) v5).bind (fun r12 => (if r12 = 9 then f_X8_fits_53 S n v1 v2 v3 1 (v5 + 1) else
 (f_X8_digit v2 v5).bind (fun r14 => (if r12 = r14 then f_X8_fits_53 S n v1 v2 v3 1 (v5 + 1) else
 f_X8_fits_53 S n v1 v2 v3 0 (v5 + 1))))))))
def f_X8_fits (S : SS) (x1 : Int32) (x2 : Int32) : Option (Int32) := zix x1 48 ((f_X8_digits ((S 4) x1.toNatClampNeg)).bind (fun r2 => zix x1 48 ((if ((S 5) x1.toNatClampNeg) = 0 then (f_X8_digits x2).bind (fun r5 => (if r5 = r2 then f_X8_fits_53 S 600 x1 x2 r2 1 0 else
 f_X8_fits_53 S 600 x1 x2 r2 0 0)) else
 (f_X8_digits x2).bind (fun r16 => (if r16 < r2 then f_X8_fits_53 S 600 x1 x2 r2 0 0 else
 f_X8_fits_53 S 600 x1 x2 r2 1 0))))))
def f_X8_goesAhead_75 (S : SS) : Nat → Int32 → Int32 → Int32 → Int32 → Option (Int32)
  | 0, _, _, _, _ => none
  | n + 1, v1, v2, v3, v4 => (if v3 ≤ v4 then some 0 else
 zix v1 48 ((f_X8_digit ((S 4) v1.toNatClampNeg) v4).bind (fun r11 => (if r11 = 9 then zix v2 48 ((f_X8_digit ((S 4) v2.toNatClampNeg) v4).bind (fun r17 => (if r17 = 9 then f_X8_goesAhead_75 S n v1 v2 v3 (v4 + 1) else
 some 0))) else
 zix v2 48 ((f_X8_digit ((S 4) v2.toNatClampNeg) v4).bind (fun r14 => (if r14 = 9 then some 1 else
 f_X8_goesAhead_75 S n v1 v2 v3 (v4 + 1))))))))
def f_X8_goesAhead (S : SS) (x1 : Int32) (x2 : Int32) : Option (Int32) := zix x1 48 ((f_X8_digits ((S 4) x1.toNatClampNeg)).bind (fun r2 => zix x2 48 ((f_X8_digits ((S 4) x2.toNatClampNeg)).bind (fun r4 => (if r2 = r4 then zix x1 48 (zix x2 48 ((if ((S 5) x1.toNatClampNeg) = ((S 5) x2.toNatClampNeg) then f_X8_goesAhead_75 S 600 x1 x2 r2 0 else
 zix x1 48 ((if ((S 5) x1.toNatClampNeg) = 0 then some 1 else
 some 0))))) else
 zix x2 48 ((f_X8_digits ((S 4) x2.toNatClampNeg)).bind (fun r22 => (if r2 ≤ r22 then some 0 else
 some 1))))))))
def f_X8_decided_8 (S : SS) : Nat → Int32 → Int32 → Int32 → Int32 → Option (Int32)
  | 0, _, _, _, _ => none
  | n + 1, v1, v2, v3, v4 => zix v1 8 ((if ((6 * v1) + ((S 3) v1.toNatClampNeg)) ≤ v4 then (if v3 = (-1) then some 0 else
 zix v3 48 (some ((S 6) v3.toNatClampNeg))) else
 (f_X8_fits S v4 v2).bind (fun r5 => (if r5 = 0 then f_X8_decided_8 S n v1 v2 v3 (v4 + 1) else
 (if v3 = (-1) then f_X8_decided_8 S n v1 v2 v4 (v4 + 1) else
 (f_X8_goesAhead S v4 v3).bind (fun r8 => (if r8 = 0 then f_X8_decided_8 S n v1 v2 v3 (v4 + 1) else
 f_X8_decided_8 S n v1 v2 v4 (v4 + 1))))))))
def f_X8_decided (S : SS) (x1 : Int32) (x2 : Int32) : Option (Int32) := f_X8_decided_8 S 600 x1 x2 (-1) (6 * x1)
def f_X8_can_14 (S : SS) : Nat → Int32 → Int32 → Int32 → Int32 → Option (Int32)
  | 0, _, _, _, _ => none
  | n + 1, v1, v2, v3, v4 => (if (S 2 0) ≤ v4 then (if (v3 &&& 8) = 0 then some v3 else
 some 0) else
 zix v1 520 ((if ((((S 14) v1.toNatClampNeg) >>> (v4 &&& 31)) &&& 1) = 1 then (f_X8_decided S v4 v2).bind (fun r6 => f_X8_can_14 S n v1 v2 (v3 ||| r6) (v4 + 1)) else
 f_X8_can_14 S n v1 v2 (v3 ||| 0) (v4 + 1))))
def f_X8_can (S : SS) (x1 : Int32) (x2 : Int32) : Option (Int32) := (if x1 = 0 then f_X8_can_14 S 600 x1 x2 7 0 else
 f_X8_can_14 S 600 x1 x2 0 0)
def f_X8_mountFor_4 (S : SS) : Nat → Int32 → Int32 → Int32 → Option (Int32)
  | 0, _, _, _ => none
  | n + 1, v1, v2, v3 => (if (S 7 0) ≤ v3 then some v2 else
 zix v3 6 ((f_X8_isBelow v1 ((S 8) v3.toNatClampNeg)).bind (fun r3 => (if r3 = 0 then f_X8_mountFor_4 S n v1 v2 (v3 + 1) else
 (if v2 = (-1) then f_X8_mountFor_4 S n v1 v3 (v3 + 1) else
 zix v3 6 ((f_X8_digits ((S 8) v3.toNatClampNeg)).bind (fun r7 => zix v2 6 ((f_X8_digits ((S 8) v2.toNatClampNeg)).bind (fun r9 => (if r7 ≤ r9 then f_X8_mountFor_4 S n v1 v2 (v3 + 1) else
 f_X8_mountFor_4 S n v1 v3 (v3 + 1)))))))))))
def f_X8_mountFor (S : SS) (x1 : Int32) : Option (Int32) := f_X8_mountFor_4 S 600 x1 (-1) 0
def f_X8_policy_15 (Sc : SS) (s1 : Int32) : Option (Int32 × SS) := (if ((zs Sc 0 s1) 0 0) ≤ 0 then some ((((zs (zs Sc 0 s1) 2 ((Sc 2 0) + 1)) 2 0) - 1), (zs (zs Sc 0 s1) 2 ((Sc 2 0) + 1))) else
 some ((((zs (zs Sc 0 s1) 2 ((Sc 2 0) + 0)) 2 0) - 1), (zs (zs Sc 0 s1) 2 ((Sc 2 0) + 0))))
def f_X8_policy (S : SS) : Option (Int32 × SS) := (if (S 2 0) = 8 then f_X8_policy_15 S 1 else
 f_X8_policy_15 S 0)
def f_X8_isPolicy (S : SS) (x1 : Int32) : Option (Int32) := (if x1 < 0 then some 0 else
 (if (S 2 0) ≤ x1 then some 0 else
 some 1))
def f_X8_allow_147 (Sc : SS) (v1 : Int32) (v2 : Int32) (v3 : Int32) (v4 : Int32) (v5 : Int32) (s1 : Int32) (s2 : Int32) (s3 : Int32) : Option (Int32 × SS) := zix s1 8 (zix v5 48 (zix v5 48 (zix v5 48 (zix v1 8 (some ((((za (za (za (za Sc 3 s1 (s2 + s3)) 4 v5 v2) 5 v5 (vp_nar .boolean v3)) 6 v5 v4) 3) v1.toNatClampNeg), (za (za (za (za Sc 3 s1 (s2 + s3)) 4 v5 v2) 5 v5 (vp_nar .boolean v3)) 6 v5 v4)))))))
def f_X8_allow_128 (Sc : SS) (v1 : Int32) (v2 : Int32) (v3 : Int32) (v4 : Int32) (v5 : Int32) (v6 : Int32) : Option (Int32 × SS) := zix v1 8 ((if v5 = v6 then f_X8_allow_147 Sc v1 v2 v3 v4 v5 v1 ((Sc 3) v1.toNatClampNeg) 1 else
 f_X8_allow_147 Sc v1 v2 v3 v4 v5 v1 ((Sc 3) v1.toNatClampNeg) 0))
def f_X8_allow_103 (Sc : SS) (v1 : Int32) (v2 : Int32) (v3 : Int32) (v4 : Int32) (v5 : Int32) (v6 : Int32) : Option (Int32 × SS) := (if v5 = v6 then zix v1 8 ((if ((Sc 3) v1.toNatClampNeg) = 6 then some (0, (zs Sc 0 3)) else
 f_X8_allow_128 Sc v1 v2 v3 v4 v5 v6)) else
 f_X8_allow_128 Sc v1 v2 v3 v4 v5 v6)
def f_X8_allow_68 : Nat → SS → Int32 → Int32 → Int32 → Int32 → Int32 → Int32 → Option (Int32 × SS)
  | 0, _, _, _, _, _, _, _ => none
  | n + 1, Sc, v1, v2, v3, v4, v5, v6 => (if v6 ≤ v5 then f_X8_allow_103 Sc v1 v2 v3 v4 v5 v6 else
 zix v5 48 ((if ((Sc 4) v5.toNatClampNeg) = v2 then zix v5 48 ((if ((Sc 5) v5.toNatClampNeg) = v3 then f_X8_allow_103 Sc v1 v2 v3 v4 v5 v6 else
 f_X8_allow_68 n Sc v1 v2 v3 v4 (v5 + 1) v6)) else
 f_X8_allow_68 n Sc v1 v2 v3 v4 (v5 + 1) v6)))
def f_X8_allow_39 (Sc : SS) (v1 : Int32) (v2 : Int32) (v3 : Int32) (v4 : Int32) (s1 : Int32) : Option (Int32 × SS) := (if ((zs Sc 0 s1) 0 0) ≤ 0 then zix v1 8 (f_X8_allow_68 600 (zs Sc 0 s1) v1 v2 v3 v4 (6 * v1) ((6 * v1) + ((Sc 3) v1.toNatClampNeg))) else
 some (0, (zs Sc 0 s1)))
def f_X8_allow_34 (Sc : SS) (v1 : Int32) (v2 : Int32) (v3 : Int32) (v4 : Int32) : Option (Int32 × SS) := f_X8_allow_39 Sc v1 v2 v3 v4 2
def f_X8_allow (S : SS) (x1 : Int32) (x2 : Int32) (x3 : Int32) (x4 : Int32) : Option (Int32 × SS) := (f_X8_isPolicy S x1).bind (fun r1 => (if r1 = 0 then f_X8_allow_39 S x1 x2 x3 x4 1 else
 (f_X8_isWritten x2 9).bind (fun r3 => (if r3 = 0 then f_X8_allow_34 S x1 x2 x3 x4 else
 (if x4 < 0 then f_X8_allow_34 S x1 x2 x3 x4 else
 (if x4 ≤ 15 then f_X8_allow_39 S x1 x2 x3 x4 0 else
 f_X8_allow_34 S x1 x2 x3 x4))))))
def f_X8_clear (S : SS) (x1 : Int32) : Option (Int32 × SS) := (f_X8_isPolicy S x1).bind (fun r1 => (if r1 = 0 then (if ((zs S 0 1) 0 0) ≤ 0 then zix x1 8 (zix x1 8 (some (((S 3) x1.toNatClampNeg), (za (zs S 0 1) 3 x1 0)))) else
 some (0, (zs S 0 1))) else
 (if ((zs S 0 0) 0 0) ≤ 0 then zix x1 8 (zix x1 8 (some (((S 3) x1.toNatClampNeg), (za (zs S 0 0) 3 x1 0)))) else
 some (0, (zs S 0 0)))))
def f_X8_isLease (x1 : Int32) (x2 : Int32) : Option (Int32) := (if x1 < 1 then some 0 else
 (if 1000 < x1 then some 0 else
 (if x2 < x1 then some 0 else
 (if 5000 < x2 then some 0 else
 some 1))))
def f_X8_mount_92 (Sc : SS) (v1 : Int32) (v2 : Int32) (v3 : Int32) (v4 : Int32) (s1 : Int32) (s2 : Int32) : Option (Int32 × SS) := zix v4 6 (zix v4 6 (zix v4 6 (some (((za (za (za (zs Sc 7 (s1 + s2)) 8 v4 v1) 9 v4 v2) 10 v4 v3) 7 0), (za (za (za (zs Sc 7 (s1 + s2)) 8 v4 v1) 9 v4 v2) 10 v4 v3)))))
def f_X8_mount_61 (Sc : SS) (v1 : Int32) (v2 : Int32) (v3 : Int32) (v4 : Int32) (s1 : Int32) : Option (Int32 × SS) := (if ((zs Sc 0 s1) 0 0) ≤ 0 then (if v4 = (Sc 7 0) then f_X8_mount_92 (zs Sc 0 s1) v1 v2 v3 v4 (Sc 7 0) 1 else
 f_X8_mount_92 (zs Sc 0 s1) v1 v2 v3 v4 (Sc 7 0) 0) else
 some (0, (zs Sc 0 s1)))
def f_X8_mount_45 (Sc : SS) (v1 : Int32) (v2 : Int32) (v3 : Int32) (v4 : Int32) : Option (Int32 × SS) := f_X8_mount_61 Sc v1 v2 v3 v4 1
def f_X8_mount_29 (Sc : SS) (v1 : Int32) (v2 : Int32) (v3 : Int32) (v4 : Int32) : Option (Int32 × SS) := (f_X8_isPath v1).bind (fun r2 => (if r2 = 0 then f_X8_mount_45 Sc v1 v2 v3 v4 else
 (f_X8_isLease v2 v3).bind (fun r9 => (if r9 = 0 then f_X8_mount_45 Sc v1 v2 v3 v4 else
 (if v4 = 6 then f_X8_mount_61 Sc v1 v2 v3 v4 2 else
 f_X8_mount_61 Sc v1 v2 v3 v4 0)))))
def f_X8_mount_3 : Nat → SS → Int32 → Int32 → Int32 → Int32 → Option (Int32 × SS)
  | 0, _, _, _, _, _ => none
  | n + 1, Sc, v1, v2, v3, v4 => (if (Sc 7 0) ≤ v4 then f_X8_mount_29 Sc v1 v2 v3 v4 else
 zix v4 6 ((if ((Sc 8) v4.toNatClampNeg) = v1 then f_X8_mount_29 Sc v1 v2 v3 v4 else
 f_X8_mount_3 n Sc v1 v2 v3 (v4 + 1))))
def f_X8_mount (S : SS) (x1 : Int32) (x2 : Int32) (x3 : Int32) : Option (Int32 × SS) := f_X8_mount_3 600 S x1 x2 x3 0
def f_X8_manyTokens_4 (S : SS) : Nat → Int32 → Int32 → Option (Int32)
  | 0, _, _ => none
  | n + 1, v1, v2 => (if (S 11 0) ≤ v2 then some v1 else
 zix v2 520 ((if ((S 12) v2.toNatClampNeg) = 0 then f_X8_manyTokens_4 S n (v1 + 0) (v2 + 1) else
 f_X8_manyTokens_4 S n (v1 + 1) (v2 + 1))))
def f_X8_manyTokens (S : SS) : Option (Int32) := f_X8_manyTokens_4 S 600 0 0
def f_X8_manyCredentials_4 (S : SS) : Nat → Int32 → Int32 → Option (Int32)
  | 0, _, _ => none
  | n + 1, v1, v2 => (if (S 19 0) ≤ v2 then some v1 else
 zix v2 520 ((if ((S 20) v2.toNatClampNeg) = 0 then f_X8_manyCredentials_4 S n (v1 + 0) (v2 + 1) else
 f_X8_manyCredentials_4 S n (v1 + 1) (v2 + 1))))
def f_X8_manyCredentials (S : SS) : Option (Int32) := f_X8_manyCredentials_4 S 600 0 0
def f_X8_ceases_76 : Nat → SS → Int32 → Int32 → Option (Int32 × SS)
  | 0, _, _, _ => none
  | n + 1, Sc, v1, v2 => (if (Sc 19 0) ≤ v2 then some (v1, Sc) else
 zix v2 520 ((if ((Sc 20) v2.toNatClampNeg) = 0 then f_X8_ceases_76 n Sc v1 (v2 + 1) else
 zix v2 520 ((if ((Sc 24) v2.toNatClampNeg) ≤ (Sc 1 0) then zix v2 520 (f_X8_ceases_76 n (za Sc 20 v2 (vp_nar .boolean 0)) (v1 + 1) (v2 + 1)) else
 zix v2 520 (zix ((Sc 21) v2.toNatClampNeg) 520 ((if ((Sc 12) ((Sc 21) v2.toNatClampNeg).toNatClampNeg) = 0 then zix v2 520 (f_X8_ceases_76 n (za Sc 20 v2 (vp_nar .boolean 0)) (v1 + 1) (v2 + 1)) else
 f_X8_ceases_76 n Sc v1 (v2 + 1)))))))))
def f_X8_ceases_4 : Nat → SS → Int32 → Int32 → Option (Int32 × SS)
  | 0, _, _, _ => none
  | n + 1, Sc, v1, v2 => (if (Sc 11 0) ≤ v2 then f_X8_ceases_76 600 Sc v1 0 else
 zix v2 520 ((if ((Sc 12) v2.toNatClampNeg) = 0 then f_X8_ceases_4 n Sc v1 (v2 + 1) else
 zix v2 520 ((if ((Sc 16) v2.toNatClampNeg) ≤ (Sc 1 0) then zix v2 520 (f_X8_ceases_4 n (za Sc 12 v2 (vp_nar .boolean 0)) (v1 + 1) (v2 + 1)) else
 zix v2 520 ((if ((Sc 13) v2.toNatClampNeg) = (-1) then f_X8_ceases_4 n Sc v1 (v2 + 1) else
 zix v2 520 (zix ((Sc 13) v2.toNatClampNeg) 520 ((if ((Sc 12) ((Sc 13) v2.toNatClampNeg).toNatClampNeg) = 0 then zix v2 520 (f_X8_ceases_4 n (za Sc 12 v2 (vp_nar .boolean 0)) (v1 + 1) (v2 + 1)) else
 f_X8_ceases_4 n Sc v1 (v2 + 1)))))))))))
def f_X8_ceases (S : SS) : Option (Int32 × SS) := f_X8_ceases_4 600 S 0 1
def f_X8_wasMade (S : SS) (x1 : Int32) : Option (Int32) := (if x1 < 0 then some 0 else
 (if (S 11 0) ≤ x1 then some 0 else
 some 1))
def f_X8_create_125 (Sc : SS) (Vc : SL) (v1 : Int32) (v2 : Int32) (v3 : Int32) (v4 : Int32) (v5 : Int32) (s1 : Int32) : Option (Int32 × SS × SL) := (if ((zs Sc 0 s1) 0 0) ≤ 0 then zix (Sc 11 0) 520 (zix (Sc 11 0) 520 (zix (Sc 11 0) 520 (zix (Sc 11 0) 520 (zix (Sc 11 0) 520 (zix (Sc 11 0) 520 ((if v5 = 0 then zix (Sc 11 0) 520 ((f_X8_writes (za (za (za (za (za (za (za (zs (zs Sc 0 s1) 11 ((Sc 11 0) + 1)) 12 (Sc 11 0) (vp_nar .boolean 1)) 13 (Sc 11 0) v1) 14 (Sc 11 0) v2) 15 (Sc 11 0) (Sc 1 0)) 16 (Sc 11 0) ((Sc 1 0) + v3)) 17 (Sc 11 0) v4) 18 (Sc 11 0) (-1)) Vc 0 v1 (Sc 11 0)).bind (fun r17 => some ((Sc 11 0), r17.1, r17.2))) else
 zix (Sc 11 0) 520 ((f_X8_writes (za (za (za (za (za (za (za (zs (zs Sc 0 s1) 11 ((Sc 11 0) + 1)) 12 (Sc 11 0) (vp_nar .boolean 1)) 13 (Sc 11 0) v1) 14 (Sc 11 0) v2) 15 (Sc 11 0) (Sc 1 0)) 16 (Sc 11 0) ((Sc 1 0) + v3)) 17 (Sc 11 0) v4) 18 (Sc 11 0) v5) Vc 0 v1 (Sc 11 0)).bind (fun r15 => some ((Sc 11 0), r15.1, r15.2)))))))))) else
 some (0, (zs Sc 0 s1), Vc))
def f_X8_create_98 (Sc : SS) (Vc : SL) (v1 : Int32) (v2 : Int32) (v3 : Int32) (v4 : Int32) (v5 : Int32) : Option (Int32 × SS × SL) := f_X8_create_125 Sc Vc v1 v2 v3 v4 v5 2
def f_X8_create_120 (Sc : SS) (Vc : SL) (v1 : Int32) (v2 : Int32) (v3 : Int32) (v4 : Int32) (v5 : Int32) : Option (Int32 × SS × SL) := f_X8_create_125 Sc Vc v1 v2 v3 v4 v5 3
def f_X8_create_55 (Sc : SS) (Vc : SL) (v1 : Int32) (v2 : Int32) (v3 : Int32) (v4 : Int32) (v5 : Int32) (v6 : Int32) (v7 : Int32) (s0 : Int32) : Option (Int32 × SS × SL) := (if v7 = 0 then f_X8_create_125 Sc Vc v1 v2 v3 v4 v5 1 else
 (if v6 = 0 then f_X8_create_98 Sc Vc v1 v2 v3 v4 v5 else
 (if s0 = 0 then f_X8_create_98 Sc Vc v1 v2 v3 v4 v5 else
 (f_X8_isLease v3 v4).bind (fun r19 => (if r19 = 0 then f_X8_create_98 Sc Vc v1 v2 v3 v4 v5 else
 (if v5 < 0 then f_X8_create_98 Sc Vc v1 v2 v3 v4 v5 else
 (if v5 ≤ 100 then zix v1 520 ((if ((Sc 12) v1.toNatClampNeg) = 0 then f_X8_create_120 Sc Vc v1 v2 v3 v4 v5 else
 (f_X8_manyTokens Sc).bind (fun r25 => (if r25 = 30 then f_X8_create_120 Sc Vc v1 v2 v3 v4 v5 else
 f_X8_create_125 Sc Vc v1 v2 v3 v4 v5 0)))) else
 f_X8_create_98 Sc Vc v1 v2 v3 v4 v5)))))))
def f_X8_create_54 (Sc : SS) (Vc : SL) (v1 : Int32) (v2 : Int32) (v3 : Int32) (v4 : Int32) (v5 : Int32) (v6 : Int32) (v7 : Int32) : Option (Int32 × SS × SL) := f_X8_create_55 Sc Vc v1 v2 v3 v4 v5 v6 v7 0
def f_X8_create_50 (Sc : SS) (Vc : SL) (v1 : Int32) (v2 : Int32) (v3 : Int32) (v4 : Int32) (v5 : Int32) (v6 : Int32) (v7 : Int32) : Option (Int32 × SS × SL) := f_X8_create_55 Sc Vc v1 v2 v3 v4 v5 v6 v7 1
def f_X8_create_19 (Sc : SS) (Vc : SL) (v1 : Int32) (v2 : Int32) (v3 : Int32) (v4 : Int32) (v5 : Int32) (s0 : Int32) : Option (Int32 × SS × SL) := (f_X8_wasMade Sc v1).bind (fun r2 => (if r2 = 0 then f_X8_create_54 Sc Vc v1 v2 v3 v4 v5 s0 r2 else
 (if v1 = 0 then f_X8_create_50 Sc Vc v1 v2 v3 v4 v5 s0 r2 else
 zix v1 520 ((if (v2 &&& (((Sc 14) v1.toNatClampNeg) ^^^ (-1))) = 0 then f_X8_create_50 Sc Vc v1 v2 v3 v4 v5 s0 r2 else
 f_X8_create_54 Sc Vc v1 v2 v3 v4 v5 s0 r2)))))
def f_X8_create_18 (Sc : SS) (Vc : SL) (v1 : Int32) (v2 : Int32) (v3 : Int32) (v4 : Int32) (v5 : Int32) : Option (Int32 × SS × SL) := f_X8_create_19 Sc Vc v1 v2 v3 v4 v5 0
def f_X8_create (S : SS) (V : SL) (x1 : Int32) (x2 : Int32) (x3 : Int32) (x4 : Int32) (x5 : Int32) : Option (Int32 × SS × SL) := (if x2 < 0 then f_X8_create_18 S V x1 x2 x3 x4 x5 else
 (if (1 <<< ((S 2 0) &&& 31)) ≤ x2 then f_X8_create_18 S V x1 x2 x3 x4 x5 else
 f_X8_create_19 S V x1 x2 x3 x4 x5 1))
def f_X8_renewed (S : SS) (x1 : Int32) (x2 : Int32) (x3 : Int32) (x4 : Int32) : Option (Int32) := (if (x1 + x3) ≤ ((S 1 0) + x4) then (if (x1 + x3) ≤ x2 then some x2 else
 some (x1 + x3)) else
 (if ((S 1 0) + x4) ≤ x2 then some x2 else
 some ((S 1 0) + x4)))
def f_X8_asksLiving (S : SS) (x1 : Int32) : Option (SS) := (f_X8_wasMade S x1).bind (fun r1 => (if r1 = 0 then some (zs S 0 1) else
 (if x1 = 0 then some (zs S 0 2) else
 zix x1 520 ((if ((S 12) x1.toNatClampNeg) = 0 then some (zs S 0 2) else
 some (zs S 0 0))))))
def f_X8_renew_47 (Sc : SS) (Vc : SL) (v1 : Int32) (v2 : Int32) (s1 : Int32) : Option (Int32 × SS × SL) := (if ((zs Sc 0 s1) 0 0) ≤ 0 then zix v1 520 (zix v1 520 (zix v1 520 ((f_X8_renewed (zs Sc 0 s1) ((Sc 15) v1.toNatClampNeg) ((Sc 16) v1.toNatClampNeg) ((Sc 17) v1.toNatClampNeg) v2).bind (fun r8 => zix v1 520 (zix v1 520 ((f_X8_writes (za (zs Sc 0 s1) 16 v1 r8) Vc 1 v1 (((za (zs Sc 0 s1) 16 v1 r8) 16) v1.toNatClampNeg)).bind (fun r11 => zix v1 520 (some (((r11.1 16) v1.toNatClampNeg), r11.1, r11.2))))))))) else
 some (0, (zs Sc 0 s1), Vc))
def f_X8_renew_30 (Sc : SS) (Vc : SL) (v1 : Int32) (v2 : Int32) : Option (Int32 × SS × SL) := f_X8_renew_47 Sc Vc v1 v2 2
def f_X8_renew (S : SS) (V : SL) (x1 : Int32) (x2 : Int32) : Option (Int32 × SS × SL) := (f_X8_asksLiving S x1).bind (fun r1 => (if (r1 0 0) = 1 then f_X8_renew_47 r1 V x1 x2 1 else
 (if x2 < 1 then f_X8_renew_30 r1 V x1 x2 else
 (if x2 ≤ 1000 then (if (r1 0 0) = 2 then f_X8_renew_47 r1 V x1 x2 3 else
 f_X8_renew_47 r1 V x1 x2 0) else
 f_X8_renew_30 r1 V x1 x2))))
def f_X8_revoke (S : SS) (V : SL) (x1 : Int32) : Option (Int32 × SS × SL) := (f_X8_asksLiving S x1).bind (fun r1 => (if (r1 0 0) ≤ 0 then zix x1 520 ((f_X8_ceases (za r1 12 x1 (vp_nar .boolean 0))).bind (fun r4 => (f_X8_writes r4.2 V 4 x1 (1 + r4.1)).bind (fun r5 => some ((1 + r4.1), r5.1, r5.2)))) else
 some (0, r1, V)))
def f_X8_revokeAlone_16 : Nat → SS → SL → Int32 → Int32 → Option (Int32 × SS × SL)
  | 0, _, _, _, _ => none
  | n + 1, Sc, Vc, v1, v2 => (if (Sc 11 0) ≤ v2 then zix v1 520 ((f_X8_ceases (za Sc 12 v1 (vp_nar .boolean 0))).bind (fun r5 => (f_X8_writes r5.2 Vc 4 v1 (1 + r5.1)).bind (fun r6 => some ((1 + r5.1), r6.1, r6.2)))) else
 zix v2 520 ((if ((Sc 12) v2.toNatClampNeg) = 0 then zix v2 520 (zix v2 520 (f_X8_revokeAlone_16 n (za Sc 13 v2 ((Sc 13) v2.toNatClampNeg)) Vc v1 (v2 + 1))) else
 zix v2 520 ((if ((Sc 13) v2.toNatClampNeg) = v1 then zix v2 520 (f_X8_revokeAlone_16 n (za Sc 13 v2 (-1)) Vc v1 (v2 + 1)) else
 zix v2 520 (zix v2 520 (f_X8_revokeAlone_16 n (za Sc 13 v2 ((Sc 13) v2.toNatClampNeg)) Vc v1 (v2 + 1))))))))
def f_X8_revokeAlone (S : SS) (V : SL) (x1 : Int32) : Option (Int32 × SS × SL) := (f_X8_asksLiving S x1).bind (fun r1 => (if (r1 0 0) ≤ 0 then f_X8_revokeAlone_16 600 r1 V x1 1 else
 some (0, r1, V)))
def f_X8_asks (S : SS) (x1 : Int32) : Option (Int32 × SS) := (f_X8_wasMade S x1).bind (fun r1 => (if r1 = 0 then (if ((zs S 0 1) 0 0) = 0 then some (1, (zs S 0 1)) else
 some (0, (zs S 0 1))) else
 (if ((zs S 0 0) 0 0) = 0 then some (1, (zs S 0 0)) else
 some (0, (zs S 0 0)))))
def f_X8_isAlive (S : SS) (x1 : Int32) : Option (Int32 × SS) := (f_X8_asks S x1).bind (fun r1 => (if r1.1 = 0 then some (0, r1.2) else
 zix x1 520 ((if ((r1.2 12) x1.toNatClampNeg) = 0 then some (0, r1.2) else
 some (1, r1.2)))))
def f_X8_parentOf (S : SS) (x1 : Int32) : Option (Int32 × SS) := (f_X8_asks S x1).bind (fun r1 => (if r1.1 = 0 then some (0, r1.2) else
 zix x1 520 (some (((r1.2 13) x1.toNatClampNeg), r1.2))))
def f_X8_endOf (S : SS) (x1 : Int32) : Option (Int32 × SS) := (f_X8_asks S x1).bind (fun r1 => (if r1.1 = 0 then some (0, r1.2) else
 zix x1 520 (some (((r1.2 16) x1.toNatClampNeg), r1.2))))
def f_X8_usesLeft (S : SS) (x1 : Int32) : Option (Int32 × SS) := (f_X8_asks S x1).bind (fun r1 => (if r1.1 = 0 then some (0, r1.2) else
 zix x1 520 (some (((r1.2 18) x1.toNatClampNeg), r1.2))))
def f_X8_below_42 (k9 : SS → Int32 → Int32 → Int32 → Option (Int32 × SS)) : Nat → SS → Int32 → Int32 → Int32 → Int32 → Option (Int32 × SS)
  | 0, _, _, _, _, _ => none
  | n + 1, Sc, v1, v2, v3, v4 => (if v4 = (-1) then (if v4 = v1 then k9 Sc v1 (v2 + 1) (v3 + (-1)) else
 k9 Sc v1 (v2 + 0) (v3 + (-1))) else
 (if v4 = v1 then (if v4 = v1 then k9 Sc v1 (v2 + 1) (v3 + (-1)) else
 k9 Sc v1 (v2 + 0) (v3 + (-1))) else
 zix v4 520 (f_X8_below_42 k9 n Sc v1 v2 v3 ((Sc 13) v4.toNatClampNeg))))
def f_X8_below_9 : Nat → SS → Int32 → Int32 → Int32 → Option (Int32 × SS)
  | 0, _, _, _, _ => none
  | n + 1, Sc, v1, v2, v3 => (if v3 < 0 then some (v2, Sc) else
 (f_X8_asks Sc v1).bind (fun r2 => (if r2.1 = 0 then some (v2, r2.2) else
 zix v3 520 ((if ((r2.2 12) v3.toNatClampNeg) = 0 then f_X8_below_42 (f_X8_below_9 n) 600 r2.2 v1 v2 v3 (-1) else
 zix v3 520 (f_X8_below_42 (f_X8_below_9 n) 600 r2.2 v1 v2 v3 ((r2.2 13) v3.toNatClampNeg)))))))
def f_X8_below (S : SS) (x1 : Int32) : Option (Int32 × SS) := f_X8_below_9 600 S x1 0 ((S 11 0) - 1)
def f_X8_tokens (S : SS) : Option (Int32 × SS) := (f_X8_manyTokens (zs S 0 0)).bind (fun r1 => some (r1, (zs S 0 0)))
def f_X8_capabilities (S : SS) (x1 : Int32) (x2 : Int32) : Option (Int32 × SS) := (f_X8_wasMade S x1).bind (fun r1 => (if r1 = 0 then (if ((zs S 0 1) 0 0) ≤ 0 then (f_X8_can (zs S 0 1) x1 x2).bind (fun r10 => some (r10, (zs S 0 1))) else
 some (0, (zs S 0 1))) else
 (f_X8_isPath x2).bind (fun r3 => (if r3 = 0 then (if ((zs S 0 2) 0 0) ≤ 0 then (f_X8_can (zs S 0 2) x1 x2).bind (fun r6 => some (r6, (zs S 0 2))) else
 some (0, (zs S 0 2))) else
 (if ((zs S 0 0) 0 0) ≤ 0 then (f_X8_can (zs S 0 0) x1 x2).bind (fun r8 => some (r8, (zs S 0 0))) else
 some (0, (zs S 0 0)))))))
def f_X8_reason (S : SS) (x1 : Int32) (x2 : Int32) : Option (Int32) := zix x1 520 ((if ((S 12) x1.toNatClampNeg) = 0 then some 1 else
 zix x1 520 ((if ((S 18) x1.toNatClampNeg) = 0 then some 2 else
 (f_X8_mountFor S x2).bind (fun r5 => (if r5 = (-1) then some 3 else
 (f_X8_can S x1 x2).bind (fun r7 => (if (r7 &&& 1) = 0 then some 4 else
 some 0))))))))
def f_X8_request_96 (Sc : SS) (Vc : SL) (v1 : Int32) (v2 : Int32) (v3 : Int32) (s1 : Int32) (s2 : Int32) (s3 : Int32) : Option (Int32 × SS × SL) := zix s1 520 ((if v3 ≤ 0 then (f_X8_mountFor (za Sc 18 s1 (s2 - s3)) v2).bind (fun r14 => zix (Sc 19 0) 520 (zix (Sc 19 0) 520 (zix (Sc 19 0) 520 (zix (Sc 19 0) 520 (zix r14 6 (zix (Sc 19 0) 520 (zix r14 6 (zix (Sc 19 0) 520 ((f_X8_writes (zs (za (za (za (za (za (za (za Sc 18 s1 (s2 - s3)) 20 (Sc 19 0) (vp_nar .boolean 1)) 21 (Sc 19 0) v1) 22 (Sc 19 0) v2) 23 (Sc 19 0) (Sc 1 0)) 24 (Sc 19 0) ((Sc 1 0) + ((Sc 9) r14.toNatClampNeg))) 25 (Sc 19 0) ((Sc 10) r14.toNatClampNeg)) 19 ((Sc 19 0) + 1)) Vc 2 v1 (((zs (za (za (za (za (za (za (za Sc 18 s1 (s2 - s3)) 20 (Sc 19 0) (vp_nar .boolean 1)) 21 (Sc 19 0) v1) 22 (Sc 19 0) v2) 23 (Sc 19 0) (Sc 1 0)) 24 (Sc 19 0) ((Sc 1 0) + ((Sc 9) r14.toNatClampNeg))) 25 (Sc 19 0) ((Sc 10) r14.toNatClampNeg)) 19 ((Sc 19 0) + 1)) 19 0) - 1)).bind (fun r23 => some (((r23.1 19 0) - 1), r23.1, r23.2))))))))))) else
 (f_X8_writes (za Sc 18 s1 (s2 - s3)) Vc 3 v1 v3).bind (fun r24 => some ((-1), r24.1, r24.2))))
def f_X8_request_95 (Sc : SS) (Vc : SL) (v1 : Int32) (v2 : Int32) (v3 : Int32) (s1 : Int32) (s2 : Int32) : Option (Int32 × SS × SL) := f_X8_request_96 Sc Vc v1 v2 v3 s1 s2 0
def f_X8_request_47 (Sc : SS) (Vc : SL) (v1 : Int32) (v2 : Int32) (s1 : Int32) : Option (Int32 × SS × SL) := (if ((zs Sc 0 s1) 0 0) ≤ 0 then (f_X8_reason (zs Sc 0 s1) v1 v2).bind (fun r8 => zix v1 520 (zix v1 520 ((if ((Sc 12) v1.toNatClampNeg) = 0 then f_X8_request_95 (zs Sc 0 s1) Vc v1 v2 r8 v1 ((Sc 18) v1.toNatClampNeg) else
 zix v1 520 ((if ((Sc 18) v1.toNatClampNeg) ≤ 0 then f_X8_request_95 (zs Sc 0 s1) Vc v1 v2 r8 v1 ((Sc 18) v1.toNatClampNeg) else
 f_X8_request_96 (zs Sc 0 s1) Vc v1 v2 r8 v1 ((Sc 18) v1.toNatClampNeg) 1)))))) else
 some (0, (zs Sc 0 s1), Vc))
def f_X8_request_46 (Sc : SS) (Vc : SL) (v1 : Int32) (v2 : Int32) : Option (Int32 × SS × SL) := f_X8_request_47 Sc Vc v1 v2 0
def f_X8_request (S : SS) (V : SL) (x1 : Int32) (x2 : Int32) : Option (Int32 × SS × SL) := (f_X8_wasMade S x1).bind (fun r1 => (if r1 = 0 then f_X8_request_47 S V x1 x2 1 else
 (f_X8_isPath x2).bind (fun r3 => (if r3 = 0 then f_X8_request_47 S V x1 x2 2 else
 (f_X8_reason S x1 x2).bind (fun r5 => (if r5 = 0 then (f_X8_manyCredentials S).bind (fun r27 => (if r27 = 40 then f_X8_request_47 S V x1 x2 3 else
 f_X8_request_46 S V x1 x2)) else
 f_X8_request_46 S V x1 x2))))))
def f_X8_whyDenied (S : SS) (x1 : Int32) (x2 : Int32) : Option (Int32 × SS) := (f_X8_wasMade S x1).bind (fun r1 => (if r1 = 0 then (if ((zs S 0 1) 0 0) ≤ 0 then (f_X8_reason (zs S 0 1) x1 x2).bind (fun r10 => some (r10, (zs S 0 1))) else
 some (0, (zs S 0 1))) else
 (f_X8_isPath x2).bind (fun r3 => (if r3 = 0 then (if ((zs S 0 2) 0 0) ≤ 0 then (f_X8_reason (zs S 0 2) x1 x2).bind (fun r8 => some (r8, (zs S 0 2))) else
 some (0, (zs S 0 2))) else
 (if ((zs S 0 0) 0 0) ≤ 0 then (f_X8_reason (zs S 0 0) x1 x2).bind (fun r6 => some (r6, (zs S 0 0))) else
 some (0, (zs S 0 0)))))))
def f_X8_wasGiven (S : SS) (x1 : Int32) : Option (Int32) := (if x1 < 0 then some 0 else
 (if (S 19 0) ≤ x1 then some 0 else
 some 1))
def f_X8_renewCredential_43 (Sc : SS) (Vc : SL) (v1 : Int32) (v2 : Int32) (s1 : Int32) : Option (Int32 × SS × SL) := (if ((zs Sc 0 s1) 0 0) ≤ 0 then zix v1 520 (zix v1 520 (zix v1 520 ((f_X8_renewed (zs Sc 0 s1) ((Sc 23) v1.toNatClampNeg) ((Sc 24) v1.toNatClampNeg) ((Sc 25) v1.toNatClampNeg) v2).bind (fun r8 => zix v1 520 (zix v1 520 (zix v1 520 ((f_X8_writes (za (zs Sc 0 s1) 24 v1 r8) Vc 1 ((Sc 21) v1.toNatClampNeg) (((za (zs Sc 0 s1) 24 v1 r8) 24) v1.toNatClampNeg)).bind (fun r12 => zix v1 520 (some (((r12.1 24) v1.toNatClampNeg), r12.1, r12.2)))))))))) else
 some (0, (zs Sc 0 s1), Vc))
def f_X8_renewCredential_25 (Sc : SS) (Vc : SL) (v1 : Int32) (v2 : Int32) : Option (Int32 × SS × SL) := f_X8_renewCredential_43 Sc Vc v1 v2 2
def f_X8_renewCredential (S : SS) (V : SL) (x1 : Int32) (x2 : Int32) : Option (Int32 × SS × SL) := (f_X8_wasGiven S x1).bind (fun r1 => (if r1 = 0 then f_X8_renewCredential_43 S V x1 x2 1 else
 (if x2 < 1 then f_X8_renewCredential_25 S V x1 x2 else
 (if x2 ≤ 1000 then zix x1 520 ((if ((S 20) x1.toNatClampNeg) = 0 then f_X8_renewCredential_43 S V x1 x2 3 else
 f_X8_renewCredential_43 S V x1 x2 0)) else
 f_X8_renewCredential_25 S V x1 x2))))
def f_X8_revokeBelow_29 : Nat → SS → SL → Int32 → Int32 → Int32 → Option (Int32 × SS × SL)
  | 0, _, _, _, _, _ => none
  | n + 1, Sc, Vc, v1, v2, v3 => (if (Sc 19 0) ≤ v3 then (f_X8_writes Sc Vc 4 0 v2).bind (fun r5 => some (v2, r5.1, r5.2)) else
 zix v3 520 ((if ((Sc 20) v3.toNatClampNeg) = 0 then f_X8_revokeBelow_29 n Sc Vc v1 v2 (v3 + 1) else
 zix v3 520 ((f_X8_isBelow ((Sc 22) v3.toNatClampNeg) v1).bind (fun r9 => (if r9 = 0 then f_X8_revokeBelow_29 n Sc Vc v1 v2 (v3 + 1) else
 zix v3 520 (f_X8_revokeBelow_29 n (za Sc 20 v3 (vp_nar .boolean 0)) Vc v1 (v2 + 1) (v3 + 1))))))))
def f_X8_revokeBelow (S : SS) (V : SL) (x1 : Int32) : Option (Int32 × SS × SL) := (f_X8_isPath x1).bind (fun r1 => (if r1 = 0 then (if ((zs S 0 1) 0 0) ≤ 0 then f_X8_revokeBelow_29 600 (zs S 0 1) V x1 0 0 else
 some (0, (zs S 0 1), V)) else
 (if ((zs S 0 0) 0 0) ≤ 0 then f_X8_revokeBelow_29 600 (zs S 0 0) V x1 0 0 else
 some (0, (zs S 0 0), V))))
def f_X8_works (S : SS) (x1 : Int32) : Option (Int32 × SS) := (f_X8_wasGiven S x1).bind (fun r1 => (if r1 = 0 then (if ((zs S 0 1) 0 0) = 0 then zix x1 520 ((if ((S 20) x1.toNatClampNeg) = 0 then some (0, (zs S 0 1)) else
 some (1, (zs S 0 1)))) else
 some (0, (zs S 0 1))) else
 (if ((zs S 0 0) 0 0) = 0 then zix x1 520 ((if ((S 20) x1.toNatClampNeg) = 0 then some (0, (zs S 0 0)) else
 some (1, (zs S 0 0)))) else
 some (0, (zs S 0 0)))))
def f_X8_endOfCredential (S : SS) (x1 : Int32) : Option (Int32 × SS) := (f_X8_wasGiven S x1).bind (fun r1 => (if r1 = 0 then (if ((zs S 0 1) 0 0) ≤ 0 then zix x1 520 (some (((S 24) x1.toNatClampNeg), (zs S 0 1))) else
 some (0, (zs S 0 1))) else
 (if ((zs S 0 0) 0 0) ≤ 0 then zix x1 520 (some (((S 24) x1.toNatClampNeg), (zs S 0 0))) else
 some (0, (zs S 0 0)))))
def f_X8_credentials (S : SS) : Option (Int32 × SS) := (f_X8_manyCredentials (zs S 0 0)).bind (fun r1 => some (r1, (zs S 0 0)))
def f_X8_credentialsOf_4 : Nat → SS → Int32 → Int32 → Int32 → Option (Int32 × SS)
  | 0, _, _, _, _ => none
  | n + 1, Sc, v1, v2, v3 => (f_X8_asks Sc v1).bind (fun r1 => (if r1.1 = 0 then some (v2, r1.2) else
 (if (r1.2 19 0) ≤ v3 then some (v2, r1.2) else
 zix v3 520 ((if ((r1.2 20) v3.toNatClampNeg) = 0 then f_X8_credentialsOf_4 n r1.2 v1 (v2 + 0) (v3 + 1) else
 zix v3 520 ((if ((r1.2 21) v3.toNatClampNeg) = v1 then f_X8_credentialsOf_4 n r1.2 v1 (v2 + 1) (v3 + 1) else
 f_X8_credentialsOf_4 n r1.2 v1 (v2 + 0) (v3 + 1))))))))
def f_X8_credentialsOf (S : SS) (x1 : Int32) : Option (Int32 × SS) := f_X8_credentialsOf_4 600 S x1 0 0
def f_X8_pass_18 (Sc : SS) (Vc : SL) (v1 : Int32) (s1 : Int32) : Option (Int32 × SS × SL) := (if ((zs Sc 0 s1) 0 0) ≤ 0 then (f_X8_ceases (zs (zs Sc 0 s1) 1 ((Sc 1 0) + v1))).bind (fun r3 => (if r3.1 ≤ 0 then some (r3.1, r3.2, Vc) else
 (f_X8_writes r3.2 Vc 5 0 r3.1).bind (fun r5 => some (r3.1, r5.1, r5.2)))) else
 some (0, (zs Sc 0 s1), Vc))
def f_X8_pass_13 (Sc : SS) (Vc : SL) (v1 : Int32) : Option (Int32 × SS × SL) := f_X8_pass_18 Sc Vc v1 1
def f_X8_pass (S : SS) (V : SL) (x1 : Int32) : Option (Int32 × SS × SL) := (if x1 < 1 then f_X8_pass_13 S V x1 else
 (if x1 ≤ 1000 then f_X8_pass_18 S V x1 0 else
 f_X8_pass_13 S V x1))
def f_X8_time (S : SS) : Option (Int32 × SS) := some ((S 1 0), (zs S 0 0))
def f_X8_nextEnd_60 : Nat → SS → Int32 → Int32 → Option (Int32 × SS)
  | 0, _, _, _ => none
  | n + 1, Sc, v1, v2 => (if (Sc 19 0) ≤ v2 then some (v1, Sc) else
 zix v2 520 ((if ((Sc 20) v2.toNatClampNeg) = 0 then f_X8_nextEnd_60 n Sc v1 (v2 + 1) else
 (if v1 = (-1) then zix v2 520 (f_X8_nextEnd_60 n Sc ((Sc 24) v2.toNatClampNeg) (v2 + 1)) else
 zix v2 520 ((if v1 ≤ ((Sc 24) v2.toNatClampNeg) then f_X8_nextEnd_60 n Sc v1 (v2 + 1) else
 zix v2 520 (f_X8_nextEnd_60 n Sc ((Sc 24) v2.toNatClampNeg) (v2 + 1))))))))
def f_X8_nextEnd_9 : Nat → SS → Int32 → Int32 → Option (Int32 × SS)
  | 0, _, _, _ => none
  | n + 1, Sc, v1, v2 => (if (Sc 11 0) ≤ v2 then f_X8_nextEnd_60 600 Sc v1 0 else
 zix v2 520 ((if ((Sc 12) v2.toNatClampNeg) = 0 then f_X8_nextEnd_9 n Sc v1 (v2 + 1) else
 (if v1 = (-1) then zix v2 520 (f_X8_nextEnd_9 n Sc ((Sc 16) v2.toNatClampNeg) (v2 + 1)) else
 zix v2 520 ((if v1 ≤ ((Sc 16) v2.toNatClampNeg) then f_X8_nextEnd_9 n Sc v1 (v2 + 1) else
 zix v2 520 (f_X8_nextEnd_9 n Sc ((Sc 16) v2.toNatClampNeg) (v2 + 1))))))))
def f_X8_nextEnd (S : SS) : Option (Int32 × SS) := f_X8_nextEnd_9 600 (zs S 0 0) (-1) 1
def f_X8_entries (S : SS) : Option (Int32 × SS) := some ((S 26 0), (zs S 0 0))
def f_X8_asksEntry (S : SS) (x1 : Int32) : Option (Int32 × SS) := (if x1 < 0 then (if ((zs S 0 1) 0 0) = 0 then some (1, (zs S 0 1)) else
 some (0, (zs S 0 1))) else
 (if (S 26 0) ≤ x1 then (if ((zs S 0 1) 0 0) = 0 then some (1, (zs S 0 1)) else
 some (0, (zs S 0 1))) else
 (if ((zs S 0 0) 0 0) = 0 then some (1, (zs S 0 0)) else
 some (0, (zs S 0 0)))))
def f_X8_kindOf (S : SS) (x1 : Int32) : Option (Int32 × SS) := (f_X8_asksEntry S x1).bind (fun r1 => (if r1.1 = 0 then some (0, r1.2) else
 zix x1 520 (some (((r1.2 27) x1.toNatClampNeg), r1.2))))
def f_X8_subjectOf (S : SS) (x1 : Int32) : Option (Int32 × SS) := (f_X8_asksEntry S x1).bind (fun r1 => (if r1.1 = 0 then some (0, r1.2) else
 zix x1 520 (some (((r1.2 28) x1.toNatClampNeg), r1.2))))
def f_X8_detailOf (S : SS) (x1 : Int32) : Option (Int32 × SS) := (f_X8_asksEntry S x1).bind (fun r1 => (if r1.1 = 0 then some (0, r1.2) else
 zix x1 520 (some (((r1.2 29) x1.toNatClampNeg), r1.2))))
def f_X8_sumOf (S : SS) (V : SL) (x1 : Int32) : Option (Int64 × SS) := (f_X8_asksEntry S x1).bind (fun r1 => (if r1.1 = 0 then some (0, r1.2) else
 zix x1 520 (some ((V x1.toNatClampNeg), r1.2))))
