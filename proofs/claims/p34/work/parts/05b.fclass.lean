def f_X7_policy (P : SS) : Option (String ⊕ (Int32 × SS)) := (f_X5_count P).bind (fun r1 => (if r1 < 8 then (f_X5_add P).bind (fun r3 => some (.inr (r3.1, r3.2))) else
 some (.inl "java/lang/IllegalStateException")))
def f_X7_checkPolicy (P : SS) (x1 : Int32) : Option (String ⊕ Unit) := (f_X5_has P x1).bind (fun r1 => (if r1 = 0 then some (.inl "java/lang/IndexOutOfBoundsException") else
 some (.inr ())))
def f_X7_checkRange (x1 : Int32) (x2 : Int32) (x3 : Int32) : Option (String ⊕ Unit) := (if x1 < x2 then some (.inl "java/lang/IllegalArgumentException") else
 (if x1 ≤ x3 then some (.inr ()) else
 some (.inl "java/lang/IllegalArgumentException")))
def f_X7_allow (P : SS) (x1 : Int32) (x2 : Int32) (x3 : Int32) (x4 : Int32) : Option (String ⊕ (Int32 × SS)) := zth (f_X7_checkPolicy P x1) (fun r1 => (f_X4_isPattern x2).bind (fun r2 => (if r2 = 0 then some (.inl "java/lang/IllegalArgumentException") else
 zth (f_X7_checkRange x4 0 15) (fun r4 => (f_X5_find P x1 x2 x3).bind (fun r5 => (if r5 = (-1) then (f_X5_rulesOf P x1).bind (fun r9 => (if r9 < 6 then (f_X5_put P x1 x2 x3 x4).bind (fun r11 => (f_X5_rulesOf r11 x1).bind (fun r12 => some (.inr (r12, r11)))) else
 some (.inl "java/lang/IllegalStateException"))) else
 (f_X5_put P x1 x2 x3 x4).bind (fun r7 => (f_X5_rulesOf r7 x1).bind (fun r8 => some (.inr (r8, r7))))))))))
def f_X7_checkPath (x1 : Int32) : Option (String ⊕ Unit) := (f_X4_isPath x1).bind (fun r1 => (if r1 = 0 then some (.inl "java/lang/IllegalArgumentException") else
 some (.inr ())))
def f_X7_checkLease (x1 : Int32) (x2 : Int32) : Option (String ⊕ Unit) := zth (f_X7_checkRange x1 1 1000) (fun r1 => zth (f_X7_checkRange x2 x1 5000) (fun r2 => some (.inr ())))
def f_X7_mount (M : SS) (x1 : Int32) (x2 : Int32) (x3 : Int32) : Option (String ⊕ (Int32 × SS)) := zth (f_X7_checkPath x1) (fun r1 => zth (f_X7_checkLease x2 x3) (fun r2 => (f_X3_find M x1).bind (fun r3 => (if r3 = (-1) then (f_X3_count M).bind (fun r7 => (if r7 < 6 then (f_X3_put M x1 x2 x3).bind (fun r9 => (f_X3_count r9).bind (fun r10 => some (.inr (r10, r9)))) else
 some (.inl "java/lang/IllegalStateException"))) else
 (f_X3_put M x1 x2 x3).bind (fun r5 => (f_X3_count r5).bind (fun r6 => some (.inr (r6, r5))))))))
def f_X7_checkToken (T : SS) (x1 : Int32) : Option (String ⊕ Unit) := (f_X2_has T x1).bind (fun r1 => (if r1 = 0 then some (.inl "java/lang/IndexOutOfBoundsException") else
 some (.inr ())))
def f_X7_mayHand (P : SS) (T : SS) (x1 : Int32) (x2 : Int32) : Option (Int32) := (f_X5_hasAll P x2).bind (fun r1 => (if r1 = 0 then some 0 else
 (if x1 = 0 then some 1 else
 (f_X6_policiesAt T x1).bind (fun r4 => (if (x2 &&& (r4 ^^^ (-1))) = 0 then some 1 else
 some 0)))))
def f_X7_checkAliveToken (T : SS) (x1 : Int32) : Option (String ⊕ Unit) := (f_X2_isOn T x1).bind (fun r1 => (if r1 = 0 then some (.inl "java/lang/IllegalStateException") else
 some (.inr ())))
def f_X7_create (B : SS) (P : SS) (T : SS) (U : SS) (L : SL) (x1 : Int32) (x2 : Int32) (x3 : Int32) (x4 : Int32) (x5 : Int32) : Option (String ⊕ (Int32 × SS × SS × SL)) := zth (f_X7_checkToken T x1) (fun r1 => (f_X7_mayHand P T x1 x2).bind (fun r2 => (if r2 = 0 then some (.inl "java/lang/IllegalArgumentException") else
 zth (f_X7_checkLease x3 x4) (fun r4 => zth (f_X7_checkRange x5 0 100) (fun r5 => zth (f_X7_checkAliveToken T x1) (fun r6 => (f_X2_living T).bind (fun r7 => (if 30 ≤ r7 then some (.inl "java/lang/IllegalStateException") else
 (f_X2_isFull T).bind (fun r9 => (if r9 = 0 then (f_X2_add T (B 5 0) ((B 5 0) + x3) x4).bind (fun r11 => (if x5 = 0 then (f_X6_describe r11.2 r11.1 x1 x2 (-1)).bind (fun r15 => (f_X0_write U L 0 x1 r11.1 (B 5 0)).bind (fun r16 => some (.inr (r11.1, r15, r16.1, r16.2)))) else
 (f_X6_describe r11.2 r11.1 x1 x2 x5).bind (fun r13 => (f_X0_write U L 0 x1 r11.1 (B 5 0)).bind (fun r14 => some (.inr (r11.1, r13, r14.1, r14.2)))))) else
 some (.inl "java/lang/IllegalStateException")))))))))))
def f_X7_checkEndingToken (T : SS) (x1 : Int32) : Option (String ⊕ Unit) := (if x1 = 0 then some (.inl "java/lang/IllegalStateException") else
 zth (f_X7_checkAliveToken T x1) (fun r2 => some (.inr ())))
def f_X7_renew (B : SS) (T : SS) (U : SS) (L : SL) (x1 : Int32) (x2 : Int32) : Option (String ⊕ (Int32 × SS × SS × SL)) := zth (f_X7_checkToken T x1) (fun r1 => zth (f_X7_checkRange x2 1 1000) (fun r2 => zth (f_X7_checkEndingToken T x1) (fun r3 => (f_X2_prolong T x1 (B 5 0) x2).bind (fun r4 => (f_X2_endAt r4 x1).bind (fun r5 => (f_X0_write U L 1 x1 r5 (B 5 0)).bind (fun r6 => some (.inr (r5, r4, r6.1, r6.2))))))))
def f_X7_endWhatHungOnTokens (T : SS) (K : SS) : Option (Int32 × SS × SS) := (f_X6_endBelowEnded T).bind (fun r1 => (f_X1_endOfEnded r1.2 K).bind (fun r2 => some ((r1.1 + r2.1), r1.2, r2.2)))
def f_X7_endToken (B : SS) (T : SS) (K : SS) (U : SS) (L : SL) (x1 : Int32) : Option (Int32 × SS × SS × SS × SL) := (f_X2_end T x1).bind (fun r1 => (f_X7_endWhatHungOnTokens r1.2 K).bind (fun r2 => (f_X0_write U L 4 x1 (r1.1 + r2.1) (B 5 0)).bind (fun r3 => some ((r1.1 + r2.1), r2.2.1, r2.2.2, r3.1, r3.2))))
def f_X7_revoke (B : SS) (T : SS) (K : SS) (U : SS) (L : SL) (x1 : Int32) : Option (String ⊕ (Int32 × SS × SS × SS × SL)) := zth (f_X7_checkToken T x1) (fun r1 => zth (f_X7_checkEndingToken T x1) (fun r2 => (f_X7_endToken B T K U L x1).bind (fun r3 => some (.inr (r3.1, r3.2.1, r3.2.2.1, r3.2.2.2.1, r3.2.2.2.2)))))
def f_X7_revokeAlone (B : SS) (T : SS) (K : SS) (U : SS) (L : SL) (x1 : Int32) : Option (String ⊕ (Int32 × SS × SS × SS × SL)) := zth (f_X7_checkToken T x1) (fun r1 => zth (f_X7_checkEndingToken T x1) (fun r2 => (f_X6_freeChildren T x1).bind (fun r3 => (f_X7_endToken B r3 K U L x1).bind (fun r4 => some (.inr (r4.1, r4.2.1, r4.2.2.1, r4.2.2.2.1, r4.2.2.2.2))))))
def f_X7_isAlive (T : SS) (x1 : Int32) : Option (String ⊕ Int32) := zth (f_X7_checkToken T x1) (fun r1 => (f_X2_isOn T x1).bind (fun r2 => zbo r2 (some (.inr r2))))
def f_X7_parentOf (T : SS) (x1 : Int32) : Option (String ⊕ Int32) := zth (f_X7_checkToken T x1) (fun r1 => (f_X6_parentAt T x1).bind (fun r2 => some (.inr r2)))
def f_X7_endOf (T : SS) (x1 : Int32) : Option (String ⊕ Int32) := zth (f_X7_checkToken T x1) (fun r1 => (f_X2_endAt T x1).bind (fun r2 => some (.inr r2)))
def f_X7_usesLeft (T : SS) (x1 : Int32) : Option (String ⊕ Int32) := zth (f_X7_checkToken T x1) (fun r1 => (f_X6_usesAt T x1).bind (fun r2 => some (.inr r2)))
def f_X7_below (T : SS) (x1 : Int32) : Option (String ⊕ Int32) := zth (f_X7_checkToken T x1) (fun r1 => (f_X6_livingBelow T x1).bind (fun r2 => some (.inr r2)))
def f_X7_tokens (T : SS) : Option (Int32) := (f_X2_living T).bind (fun r1 => some r1)
def f_X7_capabilitiesAt (P : SS) (T : SS) (x1 : Int32) (x2 : Int32) : Option (Int32) := (if x1 = 0 then some 7 else
 (f_X6_policiesAt T x1).bind (fun r2 => (f_X5_together P r2 x2).bind (fun r3 => (if (r3 &&& 8) = 0 then some r3 else
 some 0))))
def f_X7_capabilities (P : SS) (T : SS) (x1 : Int32) (x2 : Int32) : Option (String ⊕ Int32) := zth (f_X7_checkToken T x1) (fun r1 => zth (f_X7_checkPath x2) (fun r2 => (f_X7_capabilitiesAt P T x1 x2).bind (fun r3 => some (.inr r3))))
def f_X7_reasonAgainst (P : SS) (M : SS) (T : SS) (x1 : Int32) (x2 : Int32) : Option (Int32) := (f_X2_isOn T x1).bind (fun r1 => (if r1 = 0 then some 1 else
 (f_X6_usesAt T x1).bind (fun r3 => (if r3 = 0 then some 2 else
 (f_X3_nearest M x2).bind (fun r5 => (if r5 = (-1) then some 3 else
 (f_X7_capabilitiesAt P T x1 x2).bind (fun r7 => (if (r7 &&& 1) = 0 then some 4 else
 some 0))))))))
def f_X7_give (B : SS) (M : SS) (K : SS) (x1 : Int32) (x2 : Int32) : Option (Int32 × SS) := (f_X3_nearest M x2).bind (fun r1 => (f_X3_minutesAt M r1).bind (fun r2 => (f_X3_boundAt M r1).bind (fun r3 => (f_X2_add K (B 5 0) ((B 5 0) + r2) r3).bind (fun r4 => (f_X1_describe r4.2 r4.1 x1 x2).bind (fun r5 => some (r4.1, r5))))))
def f_X7_request (B : SS) (P : SS) (M : SS) (T : SS) (K : SS) (U : SS) (L : SL) (x1 : Int32) (x2 : Int32) : Option (String ⊕ (Int32 × SS × SS × SS × SL)) := zth (f_X7_checkToken T x1) (fun r1 => zth (f_X7_checkPath x2) (fun r2 => (f_X7_reasonAgainst P M T x1 x2).bind (fun r3 => (if r3 = 0 then (f_X2_living K).bind (fun r10 => (if 40 ≤ r10 then some (.inl "java/lang/IllegalStateException") else
 (f_X2_isFull K).bind (fun r12 => (if r12 = 0 then (f_X6_takeUse T x1).bind (fun r14 => (if r3 = 0 then (f_X7_give B M K x1 x2).bind (fun r16 => (f_X0_write U L 2 x1 r16.1 (B 5 0)).bind (fun r17 => some (.inr (r16.1, r14, r16.2, r17.1, r17.2)))) else
 (f_X0_write U L 3 x1 r3 (B 5 0)).bind (fun r18 => some (.inr ((-1), r14, K, r18.1, r18.2))))) else
 some (.inl "java/lang/IllegalStateException"))))) else
 (f_X6_takeUse T x1).bind (fun r5 => (if r3 = 0 then (f_X7_give B M K x1 x2).bind (fun r7 => (f_X0_write U L 2 x1 r7.1 (B 5 0)).bind (fun r8 => some (.inr (r7.1, r5, r7.2, r8.1, r8.2)))) else
 (f_X0_write U L 3 x1 r3 (B 5 0)).bind (fun r9 => some (.inr ((-1), r5, K, r9.1, r9.2)))))))))
def f_X7_whyDenied (P : SS) (M : SS) (T : SS) (x1 : Int32) (x2 : Int32) : Option (String ⊕ Int32) := zth (f_X7_checkToken T x1) (fun r1 => zth (f_X7_checkPath x2) (fun r2 => (f_X7_reasonAgainst P M T x1 x2).bind (fun r3 => some (.inr r3))))
def f_X7_checkCredential (K : SS) (x1 : Int32) : Option (String ⊕ Unit) := (f_X2_has K x1).bind (fun r1 => (if r1 = 0 then some (.inl "java/lang/IndexOutOfBoundsException") else
 some (.inr ())))
def f_X7_renewCredential (B : SS) (K : SS) (U : SS) (L : SL) (x1 : Int32) (x2 : Int32) : Option (String ⊕ (Int32 × SS × SS × SL)) := zth (f_X7_checkCredential K x1) (fun r1 => zth (f_X7_checkRange x2 1 1000) (fun r2 => (f_X2_isOn K x1).bind (fun r3 => (if r3 = 0 then some (.inl "java/lang/IllegalStateException") else
 (f_X2_prolong K x1 (B 5 0) x2).bind (fun r5 => (f_X2_endAt r5 x1).bind (fun r6 => (f_X1_ownerAt r5 x1).bind (fun r7 => (f_X0_write U L 1 r7 r6 (B 5 0)).bind (fun r8 => some (.inr (r6, r5, r8.1, r8.2))))))))))
def f_X7_revokeBelow (B : SS) (K : SS) (U : SS) (L : SL) (x1 : Int32) : Option (String ⊕ (Int32 × SS × SS × SL)) := zth (f_X7_checkPath x1) (fun r1 => (f_X1_endBelow K x1).bind (fun r2 => (f_X0_write U L 4 0 r2.1 (B 5 0)).bind (fun r3 => some (.inr (r2.1, r2.2, r3.1, r3.2)))))
def f_X7_works (K : SS) (x1 : Int32) : Option (String ⊕ Int32) := zth (f_X7_checkCredential K x1) (fun r1 => (f_X2_isOn K x1).bind (fun r2 => zbo r2 (some (.inr r2))))
def f_X7_endOfCredential (K : SS) (x1 : Int32) : Option (String ⊕ Int32) := zth (f_X7_checkCredential K x1) (fun r1 => (f_X2_endAt K x1).bind (fun r2 => some (.inr r2)))
def f_X7_credentials (K : SS) : Option (Int32) := (f_X2_living K).bind (fun r1 => some r1)
def f_X7_credentialsOf (T : SS) (K : SS) (x1 : Int32) : Option (String ⊕ Int32) := zth (f_X7_checkToken T x1) (fun r1 => (f_X1_livingOf K x1).bind (fun r2 => some (.inr r2)))
def f_X7_pass (B : SS) (T : SS) (K : SS) (U : SS) (L : SL) (x1 : Int32) : Option (String ⊕ (Int32 × SS × SS × SS × SS × SL)) := zth (f_X7_checkRange x1 1 1000) (fun r1 => (f_X2_endByTime T ((zs B 5 ((B 5 0) + x1)) 5 0)).bind (fun r2 => (f_X2_endByTime K ((zs B 5 ((B 5 0) + x1)) 5 0)).bind (fun r3 => (f_X7_endWhatHungOnTokens r2.2 r3.2).bind (fun r4 => (if ((r2.1 + r3.1) + r4.1) ≤ 0 then some (.inr (((r2.1 + r3.1) + r4.1), (zs B 5 ((B 5 0) + x1)), r4.2.1, r4.2.2, U, L)) else
 (f_X0_write U L 5 0 ((r2.1 + r3.1) + r4.1) ((zs B 5 ((B 5 0) + x1)) 5 0)).bind (fun r6 => some (.inr (((r2.1 + r3.1) + r4.1), (zs B 5 ((B 5 0) + x1)), r4.2.1, r4.2.2, r6.1, r6.2))))))))
def f_X7_time (B : SS) : Option (Int32) := some (B 5 0)
def f_X7_nextEnd (T : SS) (K : SS) : Option (Int32) := (f_X2_firstEnd T).bind (fun r1 => (f_X2_firstEnd K).bind (fun r2 => (if r1 = (-1) then some (if r1 < r2 then r2 else r1) else
 (if r2 = (-1) then some (if r1 < r2 then r2 else r1) else
 some (if r2 < r1 then r2 else r1)))))
def f_X7_entries (U : SS) : Option (Int32) := (f_X0_count U).bind (fun r1 => some r1)
def f_X7_checkEntry (U : SS) (x1 : Int32) : Option (String ⊕ Unit) := (f_X0_has U x1).bind (fun r1 => (if r1 = 0 then some (.inl "java/lang/IndexOutOfBoundsException") else
 some (.inr ())))
def f_X7_kindOf (U : SS) (x1 : Int32) : Option (String ⊕ Int32) := zth (f_X7_checkEntry U x1) (fun r1 => (f_X0_kindAt U x1).bind (fun r2 => some (.inr r2)))
def f_X7_subjectOf (U : SS) (x1 : Int32) : Option (String ⊕ Int32) := zth (f_X7_checkEntry U x1) (fun r1 => (f_X0_subjectAt U x1).bind (fun r2 => some (.inr r2)))
def f_X7_detailOf (U : SS) (x1 : Int32) : Option (String ⊕ Int32) := zth (f_X7_checkEntry U x1) (fun r1 => (f_X0_detailAt U x1).bind (fun r2 => some (.inr r2)))
def f_X7_sumOf (U : SS) (L : SL) (x1 : Int32) : Option (String ⊕ Int64) := zth (f_X7_checkEntry U x1) (fun r1 => (f_X0_sumAt U L x1).bind (fun r2 => some (.inr r2)))
