def f_X0_count (U : SS) : Option (Int32) := some (U 4 0)
def f_X0_has (U : SS) (x1 : Int32) : Option (Int32) := (if x1 < 0 then some 0 else
 (if (U 4 0) ≤ x1 then some 0 else
 some 1))
def f_X0_write (U : SS) (L : SL) (x1 : Int32) (x2 : Int32) (x3 : Int32) (x4 : Int32) : Option (SS × SL) := (if (U 4 0) < 513 then (if (U 4 0) = 0 then zix (U 4 0) 513 (zix (U 4 0) 513 (zix (U 4 0) 513 (zix (U 4 0) 513 (some ((zs (za (za (za U 0 (U 4 0) x1) 1 (U 4 0) x2) 2 (U 4 0) x3) 4 ((U 4 0) + 1)), (vp_updL L (U 4 0).toNatClampNeg ((((((31 * 17) + (7 * ((x1).toInt64))) + (5 * ((x2).toInt64))) + (3 * ((x3).toInt64))) + ((x4).toInt64)) - (((((31 * 17) + (7 * ((x1).toInt64))) + (5 * ((x2).toInt64))) + (3 * ((x3).toInt64))) + ((x4).toInt64)) / 1000003 * 1000003))))))) else
 zix ((U 4 0) - 1) 513 (zix (U 4 0) 513 (zix (U 4 0) 513 (zix (U 4 0) 513 (zix (U 4 0) 513 (some ((zs (za (za (za U 0 (U 4 0) x1) 1 (U 4 0) x2) 2 (U 4 0) x3) 4 ((U 4 0) + 1)), (vp_updL L (U 4 0).toNatClampNeg ((((((31 * (L ((U 4 0) - 1).toNatClampNeg)) + (7 * ((x1).toInt64))) + (5 * ((x2).toInt64))) + (3 * ((x3).toInt64))) + ((x4).toInt64)) - (((((31 * (L ((U 4 0) - 1).toNatClampNeg)) + (7 * ((x1).toInt64))) + (5 * ((x2).toInt64))) + (3 * ((x3).toInt64))) + ((x4).toInt64)) / 1000003 * 1000003))))))))) else
 some (U, L))
def f_X0_kindAt (U : SS) (x1 : Int32) : Option (Int32) := (f_X0_has U x1).bind (fun r1 => (if r1 = 0 then some 0 else
 zix x1 513 (some ((U 0) x1.toNatClampNeg))))
def f_X0_subjectAt (U : SS) (x1 : Int32) : Option (Int32) := (f_X0_has U x1).bind (fun r1 => (if r1 = 0 then some 0 else
 zix x1 513 (some ((U 1) x1.toNatClampNeg))))
def f_X0_detailAt (U : SS) (x1 : Int32) : Option (Int32) := (f_X0_has U x1).bind (fun r1 => (if r1 = 0 then some 0 else
 zix x1 513 (some ((U 2) x1.toNatClampNeg))))
def f_X0_sumAt (U : SS) (L : SL) (x1 : Int32) : Option (Int64) := (f_X0_has U x1).bind (fun r1 => (if r1 = 0 then some 0 else
 zix x1 513 (some (L x1.toNatClampNeg))))
def f_X2_has (K : SS) (x1 : Int32) : Option (Int32) := (if x1 < 0 then some 0 else
 (if (K 4 0) ≤ x1 then some 0 else
 some 1))
def f_X1_describe (K : SS) (x1 : Int32) (x2 : Int32) (x3 : Int32) : Option (SS) := (f_X2_has K x1).bind (fun r1 => (if r1 = 0 then some K else
 zix x1 513 (zix x1 513 (some (za (za K 6 x1 x2) 7 x1 x3)))))
def f_X1_ownerAt (K : SS) (x1 : Int32) : Option (Int32) := (f_X2_has K x1).bind (fun r1 => (if r1 = 0 then some (-1) else
 zix x1 513 (some ((K 6) x1.toNatClampNeg))))
def f_X2_made (K : SS) : Option (Int32) := some (K 4 0)
def f_X2_isOn (K : SS) (x1 : Int32) : Option (Int32) := (f_X2_has K x1).bind (fun r1 => (if r1 = 0 then some 0 else
 zix x1 513 ((if ((K 3) x1.toNatClampNeg) = 0 then some 0 else
 some 1))))
def f_X1_livingOf_4 (K : SS) : Nat → Int32 → Int32 → Int32 → Option (Int32)
  | 0, _, _, _ => none
  | n + 1, v1, v2, v3 => (f_X2_made K).bind (fun r1 => (if r1 ≤ v3 then some v2 else
 zix v3 513 ((if ((K 6) v3.toNatClampNeg) = v1 then (f_X2_isOn K v3).bind (fun r5 => (if r5 = 0 then f_X1_livingOf_4 K n v1 v2 (v3 + 1) else
 f_X1_livingOf_4 K n v1 (v2 + 1) (v3 + 1))) else
 f_X1_livingOf_4 K n v1 v2 (v3 + 1)))))
def f_X1_livingOf (K : SS) (x1 : Int32) : Option (Int32) := f_X1_livingOf_4 K 600 x1 0 0
def f_X4_length_6 : Nat → Int32 → Int32 → Int32 → Option (Int32)
  | 0, _, _, _ => none
  | n + 1, v1, v2, v3 => (if 6 ≤ v3 then some v1 else
 (if v2 ≤ 0 then some v1 else
 f_X4_length_6 n (v1 + 1) (v2 / 10) (v3 + 1)))
def f_X4_length (x1 : Int32) : Option (Int32) := f_X4_length_6 600 0 x1 0
def f_X4_withoutLast_4 : Nat → Int32 → Int32 → Int32 → Option (Int32)
  | 0, _, _, _ => none
  | n + 1, v1, v2, v3 => (if v1 ≤ v3 then some v2 else
 f_X4_withoutLast_4 n v1 (v2 / 10) (v3 + 1))
def f_X4_withoutLast (x1 : Int32) (x2 : Int32) : Option (Int32) := f_X4_withoutLast_4 600 x2 x1 0
def f_X4_isBelow (x1 : Int32) (x2 : Int32) : Option (Int32) := (f_X4_length x1).bind (fun r1 => (f_X4_length x2).bind (fun r2 => (if (r1 - r2) < 0 then some 0 else
 (f_X4_withoutLast x1 (r1 - r2)).bind (fun r4 => (if r4 = x2 then some 1 else
 some 0)))))
def f_X2_end (K : SS) (x1 : Int32) : Option (Int32 × SS) := (f_X2_isOn K x1).bind (fun r1 => (if r1 = 0 then some (0, K) else
 zix x1 513 (some (1, (zs (za K 3 x1 (vp_nar .boolean 0)) 5 ((K 5 0) - 1))))))
def f_X1_endBelow_4 : Nat → SS → Int32 → Int32 → Int32 → Option (Int32 × SS)
  | 0, _, _, _, _ => none
  | n + 1, Kc, v1, v2, v3 => (f_X2_made Kc).bind (fun r1 => (if r1 ≤ v3 then some (v2, Kc) else
 zix v3 513 ((f_X4_isBelow ((Kc 7) v3.toNatClampNeg) v1).bind (fun r4 => (if r4 = 0 then f_X1_endBelow_4 n Kc v1 v2 (v3 + 1) else
 (f_X2_end Kc v3).bind (fun r6 => f_X1_endBelow_4 n r6.2 v1 (v2 + r6.1) (v3 + 1)))))))
def f_X1_endBelow (K : SS) (x1 : Int32) : Option (Int32 × SS) := f_X1_endBelow_4 600 K x1 0 0
def f_X1_endOfEnded_4 (T : SS) : Nat → SS → Int32 → Int32 → Option (Int32 × SS)
  | 0, _, _, _ => none
  | n + 1, Kc, v2, v3 => (f_X2_made Kc).bind (fun r1 => (if r1 ≤ v3 then some (v2, Kc) else
 zix v3 513 ((f_X2_isOn T ((Kc 6) v3.toNatClampNeg)).bind (fun r4 => (if r4 = 0 then (f_X2_end Kc v3).bind (fun r6 => f_X1_endOfEnded_4 T n r6.2 (v2 + r6.1) (v3 + 1)) else
 f_X1_endOfEnded_4 T n Kc v2 (v3 + 1))))))
def f_X1_endOfEnded (T : SS) (K : SS) : Option (Int32 × SS) := f_X1_endOfEnded_4 T 600 K 0 0
def f_X2_living (T : SS) : Option (Int32) := some (T 5 0)
def f_X2_isFull (T : SS) : Option (Int32) := (if (T 4 0) < 513 then some 0 else
 some 1)
def f_X2_endAt (T : SS) (x1 : Int32) : Option (Int32) := (f_X2_has T x1).bind (fun r1 => (if r1 = 0 then some (-1) else
 zix x1 513 (some ((T 1) x1.toNatClampNeg))))
def f_X2_add (T : SS) (x1 : Int32) (x2 : Int32) (x3 : Int32) : Option (Int32 × SS) := (if (T 4 0) < 513 then zix (T 4 0) 513 (zix (T 4 0) 513 (zix (T 4 0) 513 (zix (T 4 0) 513 (some ((((zs (zs (za (za (za (za T 0 (T 4 0) x1) 1 (T 4 0) x2) 2 (T 4 0) x3) 3 (T 4 0) (vp_nar .boolean 1)) 5 ((T 5 0) + 1)) 4 ((T 4 0) + 1)) 4 0) - 1), (zs (zs (za (za (za (za T 0 (T 4 0) x1) 1 (T 4 0) x2) 2 (T 4 0) x3) 3 (T 4 0) (vp_nar .boolean 1)) 5 ((T 5 0) + 1)) 4 ((T 4 0) + 1))))))) else
 some ((-1), T))
def f_X2_prolong (T : SS) (x1 : Int32) (x2 : Int32) (x3 : Int32) : Option (SS) := (f_X2_has T x1).bind (fun r1 => (if r1 = 0 then some T else
 zix x1 513 (zix x1 513 (zix x1 513 (zix x1 513 (some (za T 1 x1 (if ((T 1) x1.toNatClampNeg) < (if (((T 0) x1.toNatClampNeg) + ((T 2) x1.toNatClampNeg)) < (x2 + x3) then (((T 0) x1.toNatClampNeg) + ((T 2) x1.toNatClampNeg)) else (x2 + x3)) then (if (((T 0) x1.toNatClampNeg) + ((T 2) x1.toNatClampNeg)) < (x2 + x3) then (((T 0) x1.toNatClampNeg) + ((T 2) x1.toNatClampNeg)) else (x2 + x3)) else ((T 1) x1.toNatClampNeg)))))))))
def f_X2_endByTime_4 : Nat → SS → Int32 → Int32 → Int32 → Option (Int32 × SS)
  | 0, _, _, _, _ => none
  | n + 1, Tc, v1, v2, v3 => (if (Tc 4 0) ≤ v3 then some (v2, Tc) else
 zix v3 513 ((if ((Tc 1) v3.toNatClampNeg) = (-1) then f_X2_endByTime_4 n Tc v1 v2 (v3 + 1) else
 zix v3 513 ((if v1 < ((Tc 1) v3.toNatClampNeg) then f_X2_endByTime_4 n Tc v1 v2 (v3 + 1) else
 (f_X2_end Tc v3).bind (fun r6 => f_X2_endByTime_4 n r6.2 v1 (v2 + r6.1) (v3 + 1)))))))
def f_X2_endByTime (T : SS) (x1 : Int32) : Option (Int32 × SS) := f_X2_endByTime_4 600 T x1 0 0
def f_X2_firstEnd_4 (T : SS) : Nat → Int32 → Int32 → Option (Int32)
  | 0, _, _ => none
  | n + 1, v1, v2 => (if (T 4 0) ≤ v2 then some v1 else
 zix v2 513 ((if ((T 3) v2.toNatClampNeg) = 0 then f_X2_firstEnd_4 T n v1 (v2 + 1) else
 zix v2 513 ((if ((T 1) v2.toNatClampNeg) = (-1) then f_X2_firstEnd_4 T n v1 (v2 + 1) else
 (if v1 = (-1) then zix v2 513 (f_X2_firstEnd_4 T n ((T 1) v2.toNatClampNeg) (v2 + 1)) else
 zix v2 513 ((if v1 ≤ ((T 1) v2.toNatClampNeg) then f_X2_firstEnd_4 T n v1 (v2 + 1) else
 zix v2 513 (f_X2_firstEnd_4 T n ((T 1) v2.toNatClampNeg) (v2 + 1))))))))))
def f_X2_firstEnd (T : SS) : Option (Int32) := f_X2_firstEnd_4 T 600 (-1) 0
def f_X3_count (M : SS) : Option (Int32) := some (M 3 0)
def f_X3_has (M : SS) (x1 : Int32) : Option (Int32) := (if x1 < 0 then some 0 else
 (if (M 3 0) ≤ x1 then some 0 else
 some 1))
def f_X3_find_2 (M : SS) : Nat → Int32 → Int32 → Option (Int32)
  | 0, _, _ => none
  | n + 1, v1, v2 => (if (M 3 0) ≤ v2 then some (-1) else
 zix v2 6 ((if ((M 0) v2.toNatClampNeg) = v1 then some v2 else
 f_X3_find_2 M n v1 (v2 + 1))))
def f_X3_find (M : SS) (x1 : Int32) : Option (Int32) := f_X3_find_2 M 600 x1 0
def f_X3_put_38 (Mc : SS) (v1 : Int32) (v2 : Int32) (v3 : Int32) (v4 : Int32) : Option (SS) := (if v4 = (-1) then some Mc else
 zix v4 6 (zix v4 6 (zix v4 6 (some (za (za (za Mc 0 v4 v1) 1 v4 v2) 2 v4 v3)))))
def f_X3_put (M : SS) (x1 : Int32) (x2 : Int32) (x3 : Int32) : Option (SS) := (f_X3_find M x1).bind (fun r1 => (if r1 = (-1) then (if 6 ≤ (M 3 0) then f_X3_put_38 M x1 x2 x3 r1 else
 f_X3_put_38 (zs M 3 ((M 3 0) + 1)) x1 x2 x3 (M 3 0)) else
 f_X3_put_38 M x1 x2 x3 r1))
def f_X3_nearest_4 (M : SS) : Nat → Int32 → Int32 → Int32 → Option (Int32)
  | 0, _, _, _ => none
  | n + 1, v1, v2, v3 => (if (M 3 0) ≤ v3 then some v2 else
 zix v3 6 ((f_X4_isBelow v1 ((M 0) v3.toNatClampNeg)).bind (fun r3 => (if r3 = 0 then f_X3_nearest_4 M n v1 v2 (v3 + 1) else
 (if v2 = (-1) then f_X3_nearest_4 M n v1 v3 (v3 + 1) else
 zix v3 6 (zix v2 6 ((if ((M 0) v3.toNatClampNeg) ≤ ((M 0) v2.toNatClampNeg) then f_X3_nearest_4 M n v1 v2 (v3 + 1) else
 f_X3_nearest_4 M n v1 v3 (v3 + 1)))))))))
def f_X3_nearest (M : SS) (x1 : Int32) : Option (Int32) := f_X3_nearest_4 M 600 x1 (-1) 0
def f_X3_minutesAt (M : SS) (x1 : Int32) : Option (Int32) := (f_X3_has M x1).bind (fun r1 => (if r1 = 0 then some 0 else
 zix x1 6 (some ((M 1) x1.toNatClampNeg))))
def f_X3_boundAt (M : SS) (x1 : Int32) : Option (Int32) := (f_X3_has M x1).bind (fun r1 => (if r1 = 0 then some 0 else
 zix x1 6 (some ((M 2) x1.toNatClampNeg))))
def f_X4_hasDigits_17 : Nat → Int32 → Int32 → Int32 → Option (Int32)
  | 0, _, _, _ => none
  | n + 1, v1, v2, v3 => (if 6 ≤ v3 then some 1 else
 (if v2 ≤ 0 then some 1 else
 (if (v2 - v2 / 10 * 10) < 1 then some 0 else
 (if (v2 - v2 / 10 * 10) ≤ v1 then f_X4_hasDigits_17 n v1 (v2 / 10) (v3 + 1) else
 some 0))))
def f_X4_hasDigits (x1 : Int32) (x2 : Int32) : Option (Int32) := (if x1 < 1 then some 0 else
 (if x1 ≤ 999999 then f_X4_hasDigits_17 600 x2 x1 0 else
 some 0))
def f_X4_isPath (x1 : Int32) : Option (Int32) := (f_X4_hasDigits x1 8).bind (fun r1 => zbo r1 (some r1))
def f_X4_isPattern (x1 : Int32) : Option (Int32) := (f_X4_hasDigits x1 9).bind (fun r1 => zbo r1 (some r1))
def f_X4_fits_37 : Nat → Int32 → Int32 → Int32 → Option (Int32)
  | 0, _, _, _ => none
  | n + 1, v4, v5, v6 => (if 6 ≤ v6 then some 1 else
 (if v4 ≤ 0 then some 1 else
 (if (v4 - v4 / 10 * 10) = 9 then f_X4_fits_37 n (v4 / 10) (v5 / 10) (v6 + 1) else
 (if (v4 - v4 / 10 * 10) = (v5 - v5 / 10 * 10) then f_X4_fits_37 n (v4 / 10) (v5 / 10) (v6 + 1) else
 some 0))))
def f_X4_fits (x1 : Int32) (x2 : Int32) (x3 : Int32) : Option (Int32) := (f_X4_length x3).bind (fun r1 => (f_X4_length x1).bind (fun r2 => (if (r1 - r2) < 0 then some 0 else
 (if (r1 - r2) ≤ 0 then (f_X4_withoutLast x3 (r1 - r2)).bind (fun r5 => f_X4_fits_37 600 x1 r5 0) else
 (if x2 = 0 then some 0 else
 (f_X4_withoutLast x3 (r1 - r2)).bind (fun r11 => f_X4_fits_37 600 x1 r11 0))))))
def f_X5_count (P : SS) : Option (Int32) := some (P 4 0)
def f_X5_has (P : SS) (x1 : Int32) : Option (Int32) := (if x1 < 0 then some 0 else
 (if (P 4 0) ≤ x1 then some 0 else
 some 1))
def f_X5_hasAll (P : SS) (x1 : Int32) : Option (Int32) := (if x1 < 0 then some 0 else
 (if (1 <<< ((P 4 0) &&& 31)) ≤ x1 then some 0 else
 some 1))
def f_X5_add (P : SS) : Option (Int32 × SS) := some ((((zs P 4 ((P 4 0) + 1)) 4 0) - 1), (zs P 4 ((P 4 0) + 1)))
def f_X5_rulesOf (P : SS) (x1 : Int32) : Option (Int32) := (f_X5_has P x1).bind (fun r1 => (if r1 = 0 then some 0 else
 zix x1 8 (some ((P 0) x1.toNatClampNeg))))
def f_X5_find_20 (P : SS) : Nat → Int32 → Int32 → Int32 → Int32 → Option (Int32)
  | 0, _, _, _, _ => none
  | n + 1, v2, v3, v5, v6 => (if v5 ≤ v6 then some (-1) else
 zix v6 48 ((if ((P 1) v6.toNatClampNeg) = v2 then zix v6 48 ((if ((P 2) v6.toNatClampNeg) = v3 then some v6 else
 f_X5_find_20 P n v2 v3 v5 (v6 + 1))) else
 f_X5_find_20 P n v2 v3 v5 (v6 + 1))))
def f_X5_find (P : SS) (x1 : Int32) (x2 : Int32) (x3 : Int32) : Option (Int32) := (f_X5_rulesOf P x1).bind (fun r1 => f_X5_find_20 P 600 x2 x3 ((x1 * 6) + r1) (x1 * 6))
def f_X5_addRule (P : SS) (x1 : Int32) : Option (Int32 × SS) := (f_X5_has P x1).bind (fun r1 => (if r1 = 0 then some ((-1), P) else
 zix x1 8 ((if ((P 0) x1.toNatClampNeg) < 6 then zix x1 8 (zix x1 8 (zix x1 8 (some ((((x1 * 6) + (((za P 0 x1 (((P 0) x1.toNatClampNeg) + 1)) 0) x1.toNatClampNeg)) - 1), (za P 0 x1 (((P 0) x1.toNatClampNeg) + 1)))))) else
 some ((-1), P)))))
def f_X5_put (P : SS) (x1 : Int32) (x2 : Int32) (x3 : Int32) (x4 : Int32) : Option (SS) := (f_X5_find P x1 x2 x3).bind (fun r1 => (if r1 = (-1) then (f_X5_addRule P x1).bind (fun r7 => (if r7.1 = (-1) then some r7.2 else
 zix r7.1 48 (zix r7.1 48 (zix r7.1 48 (some (za (za (za r7.2 1 r7.1 x2) 2 r7.1 (vp_nar .boolean x3)) 3 r7.1 x4)))))) else
 (if r1 = (-1) then some P else
 zix r1 48 (zix r1 48 (zix r1 48 (some (za (za (za P 1 r1 x2) 2 r1 (vp_nar .boolean x3)) 3 r1 x4)))))))
def f_X5_goesAhead (P : SS) (x1 : Int32) (x2 : Int32) : Option (Int32) := zix x1 48 ((f_X4_length ((P 1) x1.toNatClampNeg)).bind (fun r2 => zix x2 48 ((f_X4_length ((P 1) x2.toNatClampNeg)).bind (fun r4 => (if (r2 - r4) = 0 then zix x1 48 (zix x2 48 ((if ((P 2) x1.toNatClampNeg) = ((P 2) x2.toNatClampNeg) then zix x1 48 (zix x2 48 ((if ((P 1) x2.toNatClampNeg) ≤ ((P 1) x1.toNatClampNeg) then some 0 else
 some 1))) else
 zix x2 48 (zbo ((P 2) x2.toNatClampNeg) (some ((P 2) x2.toNatClampNeg)))))) else
 (if (r2 - r4) ≤ 0 then some 0 else
 some 1))))))
def f_X5_decided_20 (P : SS) : Nat → Int32 → Int32 → Int32 → Int32 → Option (Int32)
  | 0, _, _, _, _ => none
  | n + 1, v2, v4, v5, v6 => (if v4 ≤ v6 then (if v5 = (-1) then some 0 else
 zix v5 48 (some ((P 3) v5.toNatClampNeg))) else
 zix v6 48 (zix v6 48 ((f_X4_fits ((P 1) v6.toNatClampNeg) ((P 2) v6.toNatClampNeg) v2).bind (fun r7 => (if r7 = 0 then f_X5_decided_20 P n v2 v4 v5 (v6 + 1) else
 (if v5 = (-1) then f_X5_decided_20 P n v2 v4 v6 (v6 + 1) else
 (f_X5_goesAhead P v6 v5).bind (fun r10 => (if r10 = 0 then f_X5_decided_20 P n v2 v4 v5 (v6 + 1) else
 f_X5_decided_20 P n v2 v4 v6 (v6 + 1)))))))))
def f_X5_decided (P : SS) (x1 : Int32) (x2 : Int32) : Option (Int32) := (f_X5_rulesOf P x1).bind (fun r1 => f_X5_decided_20 P 600 x2 ((x1 * 6) + r1) (-1) (x1 * 6))
def f_X5_together_5 (P : SS) : Nat → Int32 → Int32 → Int32 → Int32 → Option (Int32)
  | 0, _, _, _, _ => none
  | n + 1, v1, v2, v3, v4 => (if (P 4 0) ≤ v4 then some v3 else
 (if ((v1 >>> (v4 &&& 31)) &&& 1) = 0 then f_X5_together_5 P n v1 v2 v3 (v4 + 1) else
 (f_X5_decided P v4 v2).bind (fun r3 => f_X5_together_5 P n v1 v2 (v3 ||| r3) (v4 + 1))))
def f_X5_together (P : SS) (x1 : Int32) (x2 : Int32) : Option (Int32) := f_X5_together_5 P 600 x1 x2 0 0
def f_X6_describe (T : SS) (x1 : Int32) (x2 : Int32) (x3 : Int32) (x4 : Int32) : Option (SS) := (f_X2_has T x1).bind (fun r1 => (if r1 = 0 then some T else
 zix x1 513 (zix x1 513 (zix x1 513 (some (za (za (za T 6 x1 x2) 7 x1 x3) 8 x1 x4))))))
def f_X6_parentAt (T : SS) (x1 : Int32) : Option (Int32) := (f_X2_has T x1).bind (fun r1 => (if r1 = 0 then some (-1) else
 zix x1 513 (some ((T 6) x1.toNatClampNeg))))
def f_X6_policiesAt (T : SS) (x1 : Int32) : Option (Int32) := (f_X2_has T x1).bind (fun r1 => (if r1 = 0 then some 0 else
 zix x1 513 (some ((T 7) x1.toNatClampNeg))))
def f_X6_usesAt (T : SS) (x1 : Int32) : Option (Int32) := (f_X2_has T x1).bind (fun r1 => (if r1 = 0 then some (-1) else
 zix x1 513 (some ((T 8) x1.toNatClampNeg))))
def f_X6_takeUse (T : SS) (x1 : Int32) : Option (SS) := (f_X2_isOn T x1).bind (fun r1 => (if r1 = 0 then some T else
 zix x1 513 ((if ((T 8) x1.toNatClampNeg) ≤ 0 then some T else
 zix x1 513 (zix x1 513 (some (za T 8 x1 (((T 8) x1.toNatClampNeg) - 1))))))))
def f_X6_freeChildren_2 : Nat → SS → Int32 → Int32 → Option (SS)
  | 0, _, _, _ => none
  | n + 1, Tc, v1, v2 => (f_X2_made Tc).bind (fun r1 => (if r1 ≤ v2 then some Tc else
 zix v2 513 ((if ((Tc 6) v2.toNatClampNeg) = v1 then (f_X2_isOn Tc v2).bind (fun r5 => (if r5 = 0 then f_X6_freeChildren_2 n Tc v1 (v2 + 1) else
 zix v2 513 (f_X6_freeChildren_2 n (za Tc 6 v2 (-1)) v1 (v2 + 1)))) else
 f_X6_freeChildren_2 n Tc v1 (v2 + 1)))))
def f_X6_freeChildren (T : SS) (x1 : Int32) : Option (SS) := f_X6_freeChildren_2 600 T x1 0
def f_X6_endBelowEnded_4 : Nat → SS → Int32 → Int32 → Option (Int32 × SS)
  | 0, _, _, _ => none
  | n + 1, Tc, v1, v2 => (f_X2_made Tc).bind (fun r1 => (if r1 ≤ v2 then some (v1, Tc) else
 zix v2 513 ((if ((Tc 6) v2.toNatClampNeg) = (-1) then f_X6_endBelowEnded_4 n Tc v1 (v2 + 1) else
 zix v2 513 ((f_X2_isOn Tc ((Tc 6) v2.toNatClampNeg)).bind (fun r6 => (if r6 = 0 then (f_X2_end Tc v2).bind (fun r8 => f_X6_endBelowEnded_4 n r8.2 (v1 + r8.1) (v2 + 1)) else
 f_X6_endBelowEnded_4 n Tc v1 (v2 + 1))))))))
def f_X6_endBelowEnded (T : SS) : Option (Int32 × SS) := f_X6_endBelowEnded_4 600 T 0 0
def f_X6_hangsBelow_9 (T : SS) : Nat → Int32 → Int32 → Int32 → Option (Int32)
  | 0, _, _, _ => none
  | n + 1, v2, v3, v4 => (if 513 ≤ v4 then (if v3 = v2 then some 1 else
 some 0) else
 (if v3 ≤ v2 then (if v3 = v2 then some 1 else
 some 0) else
 (f_X6_parentAt T v3).bind (fun r6 => f_X6_hangsBelow_9 T n v2 r6 (v4 + 1))))
def f_X6_hangsBelow (T : SS) (x1 : Int32) (x2 : Int32) : Option (Int32) := (f_X6_parentAt T x1).bind (fun r1 => f_X6_hangsBelow_9 T 600 x2 r1 0)
def f_X6_livingBelow_4 (T : SS) : Nat → Int32 → Int32 → Int32 → Option (Int32)
  | 0, _, _, _ => none
  | n + 1, v1, v2, v3 => (f_X2_made T).bind (fun r1 => (if r1 ≤ v3 then some v2 else
 (f_X2_isOn T v3).bind (fun r3 => (if r3 = 0 then f_X6_livingBelow_4 T n v1 v2 (v3 + 1) else
 (f_X6_hangsBelow T v3 v1).bind (fun r5 => (if r5 = 0 then f_X6_livingBelow_4 T n v1 v2 (v3 + 1) else
 f_X6_livingBelow_4 T n v1 (v2 + 1) (v3 + 1)))))))
def f_X6_livingBelow (T : SS) (x1 : Int32) : Option (Int32) := f_X6_livingBelow_4 T 600 x1 0 0
