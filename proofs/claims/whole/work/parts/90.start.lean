/-! THE CLAIM OUT OF ONE WALK OF THE LAW'S BODY. Your part is whole_start (and what it stands on); all else here is the same for every law, but numbers. -/
def R_law : String := "SecretBrokerLaw"
def lw_P (b : Addr) (xs : List Int32) (args : Array Value) (s : State) : Prop := args = #[.ref b] ∧ s.IntsAt b xs ∧ xs.length ≤ 3072 ∧ (Jvm.Cond.and given_1 narrow_1).before args s = true
def lw_Q (_ : Array Value) (s : State) (o : Outcome) (t : State) : Prop := o = .returned (some (.int 1)) ∧ Framed s o t [] 1096 26258
def lw_Z (below : List Frame) (a : Array Value) (s : State) : State → Prop := fun t => ∃ o, t.status = .running ∧ Ended t below o ∧ lw_Q a s o t
/-- the law's own end, with 1 on the stack, nothing written that was there before, its room as the claim has it -/
theorem lw_ret {p : Program} {l : Launch} {e : Env} {s : State} {m : MethodId} {below : List Frame} {meth : Method} {c : Code} {b : Nat} (hx : p.tables.exec = Jvm.exec) (hb : c.code = code) (hr : meth.sig.returnType = ret) (hlocks : meth.locks = false) {pc : Nat} {H : Heap} {ls : Array Slot} (hdg : decode code pc = .ok (.ireturn, 1)) : W p l e room_1 s m #[Value.ref b] below meth c H [] 1096 26258 (lw_Z below #[Value.ref b] s) (F0 m pc ls [.int 1]) := by
  intro T hT X
  obtain ⟨fs, hret, hrun, hended, hW, hframe⟩ := X.leave (v := some (.int 1)) (hlocks := hlocks) (fun h => by rw [hr] at h; cases h)
  have hmeth' : T.vm.method? m = some meth := X.method'
  refine ⟨T.setFrames fs, ?_, .returned (some (.int 1)), hrun, hended, rfl, ⟨_, rfl⟩, hW, hframe⟩
  jvm_step X.here [X.here.top, hx, hb, hdg, hmeth', hr, ret, narrow_b1]
  (try refine ⟨rfl, ?_⟩); (try refine ⟨rfl, ?_⟩)
  first | (intro acts; rw [hret _ acts rfl rfl rfl]) | rw [hret _ _ rfl rfl rfl]
  exact Steps.refl _
/-- what holds at the law's entry: the machine, the code, the tables' words (any of lw_tbl by 'hts w (by decide +kernel)'), the script of L ints xs at the cell b, what the Statement gives of the start (any of its parts by flat_of_before) -/
def lw_At (p : Program) (s : State) (m : MethodId) (meth : Method) (c : Code) (b L : Nat) (xs : Nat → Int32) : Prop :=
  p.tables.exec = Jvm.exec ∧ c.code = code ∧ meth.sig.returnType = ret ∧ c.maxLocals = 8 ∧ s.vm.findClass R_law = some m.cls ∧ (∀ w ∈ lw_tbl, w.before #[Value.ref b] s = true) ∧ va_X b L xs s s.heap ∧ b < s.heap.size ∧ meth.locks = false ∧ (Jvm.Cond.and given_1 narrow_1).before #[Value.ref b] s = true

theorem st_arr {args : Array Value} {s : State} {ty : FieldType} (hno : ∀ C, ty ≠ .object C) (h : (Cond.arrayClass ty).before args s = true) : ∃ cA : ClassId, ArrOfT s cA ty ∧ s.vm.findClass ("[" ++ ty.toString) = some cA := by
  obtain ⟨cA, kA, comp, h1, h2, h3⟩ := Cond.arrayClass_spec h
  exact ⟨cA, fun n z => ⟨fun k h => (by cases h), kA, h2, comp, h3⟩, h1⟩
def zNest7 : List (String × Nat × MethodName × String) := [(RX7, 9, yX5_init, "SecretBroker"), (RX7, 18, yX3_init, "SecretBroker"), (RX7, 32, yX1_init, "SecretBroker"), (RX7, 39, yX0_init, "SecretBroker"), (RX6, 3, yX2_init, "SecretBroker"), (RX1, 3, yX2_init, "SecretBroker")]
theorem st_nw : ∀ q ∈ zNest7, zNx q ∈ lw_tbl := by decide +kernel
theorem st_str : ∀ q ∈ zStr, Cond.stringRef RX7 q.1 q.2 ∈ lw_tbl := by decide +kernel
theorem st_ex : ∀ q ∈ zStr, Cond.exactly (.string RX7 q.1) "java/lang/String" ∈ flatC (Jvm.Cond.and given_1 narrow_1) := by decide +kernel
theorem st_zE {s : State} {args : Array Value} (hts : ∀ w ∈ lw_tbl, w.before args s = true) (hgv : (Jvm.Cond.and given_1 narrow_1).before args s = true) : zE (fun q : Nat => s.heap.size ≤ q) s s.heap := by
  have hg := flat_of_before _ hgv
  refine ⟨vx_Zqof (hts _ (by decide +kernel)) (hts _ (by decide +kernel)) (hg _ (by decide +kernel)) (fun a ha => Nat.not_le.mpr ha), vx_Zqof (hts _ (by decide +kernel)) (hts _ (by decide +kernel)) (hg _ (by decide +kernel)) (fun a ha => Nat.not_le.mpr ha), ⟨⟨va_Nw.of rfl (hts _ (by decide +kernel)), va_Nw.of rfl (hts _ (by decide +kernel)), va_Nw.of rfl (hts _ (by decide +kernel))⟩, va_Nw.of rfl (hts _ (by decide +kernel)), va_Nw.of rfl (hts _ (by decide +kernel)), va_Nw.of rfl (hts _ (by decide +kernel))⟩, fun q hq => ?_⟩
  obtain ⟨a, _, _, _, h1, _⟩ := Cond.exactly_spec (hg _ (st_ex q hq))
  exact ⟨a, vk_R.of (hts _ (st_str q hq)) h1⟩
theorem st_zN {s : State} {args : Array Value} (hgv : (Jvm.Cond.and given_1 narrow_1).before args s = true) : zN s := by
  have hg := flat_of_before _ hgv
  exact ⟨va_Nc.of (hg _ (by decide +kernel)), va_Nc.of (hg _ (by decide +kernel)), va_Nc.of (hg _ (by decide +kernel))⟩
section ZZ
variable {p : Program} {l : Launch} {e : Env} {s : State} {m : MethodId} {below : List Frame} {meth : Method} {c : Code} {cells slots : Nat}
variable {cc : ByteArray} {own : String} {Ts : List Cond} {D : va_G} {tys : List (ClassId × FieldType)} {lv : List (Nat × Value)} {ws ws' : va_W} {pc : Nat} {b : Nat} {st : List Value}
theorem z_wsub {R : Room} {args : Array Value} {nL : Nat} {A : Nat → Prop} {H0 : Heap} {Q : State → Prop} (is : List Nat) (hn : va_nd is = true) (h1 : is.filterMap (fun i => ws[i]?) = ws') (h2 : is.map (fun i => ws[i]?) = ws'.map some) (k : zW p l e R s m args below meth c nL D A H0 cells slots Q ws' lv pc st) : zW p l e R s m args below meth c nL D A H0 cells slots Q ws lv pc st :=
  fun H locs ls g1 g2 g3 g4 => k H locs ls (g1.sub is h1) (g2.sub is hn h2) g3 g4
/-- the law's end: 1 -/
theorem z_one (C : zC p s m #[.ref b] meth c cL_law 8 ret RL Ts D tys (fun q : Nat => s.heap.size ≤ q) s.heap) (hc : cells ≤ 1096) (hs : slots ≤ 26258) : zW p l e room_1 s m #[.ref b] below meth c 8 D (fun q : Nat => s.heap.size ≤ q) s.heap cells slots (lw_Z below #[Value.ref b] s) ws lv 1892 [] := by
  refine z_iconst (v := 1) C dL_law_1892 (by decide) ?_
  exact fun H locs ls h1 h2 h3 h4 => W.widen hc hs (va_forget (fun q hq => h3.2.2 q hq) (lw_ret C.1 C.2.1 C.2.2.2.2.2.2.2.2 C.2.2.2.2.2.2.2.1 dL_law_1893))
end ZZ
set_option maxHeartbeats 4000000 in
set_option maxRecDepth 100000 in
theorem lw_loop (l : Launch) (hl : l.stackTraces = false) (D : va_G) (cI cJ cZ : ClassId) (ab ao : Nat) (a5 a3 a6 a1 a0 a8 : Nat → Nat) {p : Program} {e : Env} {s : State} {m : MethodId} {below : List Frame} {meth : Method} {c : Code} {b sL : Nat} {xs : Nat → Int32}
    (C : zC p s m #[.ref b] meth c cL_law 8 ret RL wsL_law D (zTy cI cJ cZ) (fun q : Nat => s.heap.size ≤ q) s.heap) (XE : zE (fun q : Nat => s.heap.size ≤ q) s s.heap) (XN : zN s) (hX : va_X b sL xs s s.heap) (hbl : b < s.heap.size) (n : Nat) : ∀ (cl sl : Nat) (i : Int32) (B P M T K U : SS) (L O : SL) (S : SS) (V : SL), cl + n ≤ 1096 → sl + 6 * n ≤ 26258 → f_law_lp xs sL n i B P M T K U L O S V = some 1 →
    zW p l e room_1 s m #[.ref b] below meth c 8 D (fun q : Nat => s.heap.size ≤ q) s.heap cl sl (lw_Z below #[Value.ref b] s) (zwX7 cI cJ cZ ab a5 a3 a6 a1 a0 B P M T K U L ++ (zwO cJ ao O ++ zwX8 cI cJ cZ a8 S V)) [(0, .ref b), (1, .ref ab), (2, .ref (a8 0)), (3, .ref ao), (4, .int i)] 23 [] := by
  have hbA : ¬ (fun q : Nat => s.heap.size ≤ q) b := Nat.not_le.mpr hbl
  induction n with
  | zero =>
    intro cl sl i B P M T K U L O S V hc hs hF
    rw [f_law_lp] at hF
    cases hF
  | succ n ih =>
    intro cl sl i B P M T K U L O S V hc hs hF
    rw [f_law_lp] at hF
    refine z_iload C dL_law_23 4 rfl ?_
    refine z_aload_n C dL_law_25 rfl 0 rfl ?_
    refine z_slen C hX hbl hbA dL_law_26 ?_
    refine z_bipush (v := 6) C dL_law_27 (by decide) ?_
    refine z_isub C dL_law_29 ?_
    refine z_icmp_gt (tgt := 1892) C dL_law_30 (by decide) (fun g => ?_) (fun g => ?_)
    · exact z_one C (by omega) (by omega)
    have hF := zelse hF g
    obtain ⟨hin, hF⟩ := zix_some hF
    have hk : ∀ (B P M T K U : SS) (L O : SL) (S : SS) (V : SL), f_law_lp xs sL n (i + 6) B P M T K U L O S V = some 1 → zW p l e room_1 s m #[.ref b] below meth c 8 D (fun q : Nat => s.heap.size ≤ q) s.heap (cl + 1) (sl + 6) (lw_Z below #[Value.ref b] s) (zwX7 cI cJ cZ ab a5 a3 a6 a1 a0 B P M T K U L ++ (zwO cJ ao O ++ zwX8 cI cJ cZ a8 S V)) [(0, .ref b), (1, .ref ab), (2, .ref (a8 0)), (3, .ref ao), (4, .int i)] 1886 [] := by
      intro B P M T K U L O S V hF
      refine z_iinc (v := i + 6) (lv' := [(4, .int (i + 6)), (0, .ref b), (1, .ref ab), (2, .ref (a8 0)), (3, .ref ao)]) C dL_law_1886 4 rfl rfl (by decide) rfl ?_
      refine z_goto (tgt := 23) C dL_law_1889 (by decide) ?_
      refine z_sub (lv' := [(0, .ref b), (1, .ref ab), (2, .ref (a8 0)), (3, .ref ao), (4, .int (i + 6))]) C [1, 2, 3, 4, 0] rfl ?_
      exact ih (cl + 1) (sl + 6) (i + 6) B P M T K U L O S V (by omega) (by omega) hF
    refine z_aload_n C dL_law_33 rfl 0 rfl ?_
    refine z_iload C dL_law_34 4 rfl ?_
    refine z_sld C hX hbl hbA hin dL_law_36 ?_
    refine z_bipush (v := 31) C dL_law_37 (by decide) ?_
    refine z_iand C dL_law_39 ?_
    obtain ⟨j, hj, hx⟩ := pk_andE (xs i.toNatClampNeg) (m := 31) 5 (by decide)
    generalize xs i.toNatClampNeg &&& 31 = x at hF hx ⊢
    unfold f_law_sw at hF
    by_cases h0 : x = 0
    · refine z_topeq h0 ?_
      refine z_tableIn (off := 140) (tgt := 180) C dL_law_40 (by decide) (by decide) (by decide) (by decide) ?_
      exact c_law_0 l hl D cI cJ cZ ab ao a5 a3 a6 a1 a0 a8 C XE XN hX hbl hbA cl sl (by omega) (by omega) i _ hk B P M T K U L O S V (zif hF h0)
    have hF := zelse hF h0
    by_cases h1 : x = 1
    · refine z_topeq h1 ?_
      refine z_tableIn (off := 184) (tgt := 224) C dL_law_40 (by decide) (by decide) (by decide) (by decide) ?_
      exact c_law_1 l hl D cI cJ cZ ab ao a5 a3 a6 a1 a0 a8 C XE XN hX hbl hbA cl sl (by omega) (by omega) i _ hk B P M T K U L O S V (zif hF h1)
    have hF := zelse hF h1
    by_cases h2 : x = 2
    · refine z_topeq h2 ?_
      refine z_tableIn (off := 292) (tgt := 332) C dL_law_40 (by decide) (by decide) (by decide) (by decide) ?_
      exact c_law_2 l hl D cI cJ cZ ab ao a5 a3 a6 a1 a0 a8 C XE XN hX hbl hbA cl sl (by omega) (by omega) i _ hk B P M T K U L O S V (zif hF h2)
    have hF := zelse hF h2
    by_cases h3 : x = 3
    · refine z_topeq h3 ?_
      refine z_tableIn (off := 348) (tgt := 388) C dL_law_40 (by decide) (by decide) (by decide) (by decide) ?_
      exact c_law_3 l hl D cI cJ cZ ab ao a5 a3 a6 a1 a0 a8 C XE XN hX hbl hbA cl sl (by omega) (by omega) i _ hk B P M T K U L O S V (zif hF h3)
    have hF := zelse hF h3
    by_cases h4 : x = 4
    · refine z_topeq h4 ?_
      refine z_tableIn (off := 428) (tgt := 468) C dL_law_40 (by decide) (by decide) (by decide) (by decide) ?_
      exact c_law_4 l hl D cI cJ cZ ab ao a5 a3 a6 a1 a0 a8 C XE XN hX hbl hbA cl sl (by omega) (by omega) i _ hk B P M T K U L O S V (zif hF h4)
    have hF := zelse hF h4
    by_cases h5 : x = 5
    · refine z_topeq h5 ?_
      refine z_tableIn (off := 532) (tgt := 572) C dL_law_40 (by decide) (by decide) (by decide) (by decide) ?_
      exact c_law_5 l hl D cI cJ cZ ab ao a5 a3 a6 a1 a0 a8 C XE XN hX hbl hbA cl sl (by omega) (by omega) i _ hk B P M T K U L O S V (zif hF h5)
    have hF := zelse hF h5
    by_cases h6 : x = 6
    · refine z_topeq h6 ?_
      refine z_tableIn (off := 600) (tgt := 640) C dL_law_40 (by decide) (by decide) (by decide) (by decide) ?_
      exact c_law_6 l hl D cI cJ cZ ab ao a5 a3 a6 a1 a0 a8 C XE XN hX hbl hbA cl sl (by omega) (by omega) i _ hk B P M T K U L O S V (zif hF h6)
    have hF := zelse hF h6
    by_cases h7 : x = 7
    · refine z_topeq h7 ?_
      refine z_tableIn (off := 656) (tgt := 696) C dL_law_40 (by decide) (by decide) (by decide) (by decide) ?_
      exact c_law_7 l hl D cI cJ cZ ab ao a5 a3 a6 a1 a0 a8 C XE XN hX hbl hbA cl sl (by omega) (by omega) i _ hk B P M T K U L O S V (zif hF h7)
    have hF := zelse hF h7
    by_cases h8 : x = 8
    · refine z_topeq h8 ?_
      refine z_tableIn (off := 712) (tgt := 752) C dL_law_40 (by decide) (by decide) (by decide) (by decide) ?_
      exact c_law_8 l hl D cI cJ cZ ab ao a5 a3 a6 a1 a0 a8 C XE XN hX hbl hbA cl sl (by omega) (by omega) i _ hk B P M T K U L O S V (zif hF h8)
    have hF := zelse hF h8
    by_cases h9 : x = 9
    · refine z_topeq h9 ?_
      refine z_tableIn (off := 775) (tgt := 815) C dL_law_40 (by decide) (by decide) (by decide) (by decide) ?_
      exact c_law_9 l hl D cI cJ cZ ab ao a5 a3 a6 a1 a0 a8 C XE XN hX hbl hbA cl sl (by omega) (by omega) i _ hk B P M T K U L O S V (zif hF h9)
    have hF := zelse hF h9
    by_cases h10 : x = 10
    · refine z_topeq h10 ?_
      refine z_tableIn (off := 831) (tgt := 871) C dL_law_40 (by decide) (by decide) (by decide) (by decide) ?_
      exact c_law_10 l hl D cI cJ cZ ab ao a5 a3 a6 a1 a0 a8 C XE XN hX hbl hbA cl sl (by omega) (by omega) i _ hk B P M T K U L O S V (zif hF h10)
    have hF := zelse hF h10
    by_cases h11 : x = 11
    · refine z_topeq h11 ?_
      refine z_tableIn (off := 887) (tgt := 927) C dL_law_40 (by decide) (by decide) (by decide) (by decide) ?_
      exact c_law_11 l hl D cI cJ cZ ab ao a5 a3 a6 a1 a0 a8 C XE XN hX hbl hbA cl sl (by omega) (by omega) i _ hk B P M T K U L O S V (zif hF h11)
    have hF := zelse hF h11
    by_cases h12 : x = 12
    · refine z_topeq h12 ?_
      refine z_tableIn (off := 943) (tgt := 983) C dL_law_40 (by decide) (by decide) (by decide) (by decide) ?_
      exact c_law_12 l hl D cI cJ cZ ab ao a5 a3 a6 a1 a0 a8 C XE XN hX hbl hbA cl sl (by omega) (by omega) i _ hk B P M T K U L O S V (zif hF h12)
    have hF := zelse hF h12
    by_cases h13 : x = 13
    · refine z_topeq h13 ?_
      refine z_tableIn (off := 999) (tgt := 1039) C dL_law_40 (by decide) (by decide) (by decide) (by decide) ?_
      exact c_law_13 l hl D cI cJ cZ ab ao a5 a3 a6 a1 a0 a8 C XE XN hX hbl hbA cl sl (by omega) (by omega) i _ hk B P M T K U L O S V (zif hF h13)
    have hF := zelse hF h13
    by_cases h14 : x = 14
    · refine z_topeq h14 ?_
      refine z_tableIn (off := 1012) (tgt := 1052) C dL_law_40 (by decide) (by decide) (by decide) (by decide) ?_
      exact c_law_14 l hl D cI cJ cZ ab ao a5 a3 a6 a1 a0 a8 C XE XN hX hbl hbA cl sl (by omega) (by omega) i _ hk B P M T K U L O S V (zif hF h14)
    have hF := zelse hF h14
    by_cases h15 : x = 15
    · refine z_topeq h15 ?_
      refine z_tableIn (off := 1080) (tgt := 1120) C dL_law_40 (by decide) (by decide) (by decide) (by decide) ?_
      exact c_law_15 l hl D cI cJ cZ ab ao a5 a3 a6 a1 a0 a8 C XE XN hX hbl hbA cl sl (by omega) (by omega) i _ hk B P M T K U L O S V (zif hF h15)
    have hF := zelse hF h15
    by_cases h16 : x = 16
    · refine z_topeq h16 ?_
      refine z_tableIn (off := 1148) (tgt := 1188) C dL_law_40 (by decide) (by decide) (by decide) (by decide) ?_
      exact c_law_16 l hl D cI cJ cZ ab ao a5 a3 a6 a1 a0 a8 C XE XN hX hbl hbA cl sl (by omega) (by omega) i _ hk B P M T K U L O S V (zif hF h16)
    have hF := zelse hF h16
    by_cases h17 : x = 17
    · refine z_topeq h17 ?_
      refine z_tableIn (off := 1216) (tgt := 1256) C dL_law_40 (by decide) (by decide) (by decide) (by decide) ?_
      exact c_law_17 l hl D cI cJ cZ ab ao a5 a3 a6 a1 a0 a8 C XE XN hX hbl hbA cl sl (by omega) (by omega) i _ hk B P M T K U L O S V (zif hF h17)
    have hF := zelse hF h17
    by_cases h18 : x = 18
    · refine z_topeq h18 ?_
      refine z_tableIn (off := 1284) (tgt := 1324) C dL_law_40 (by decide) (by decide) (by decide) (by decide) ?_
      exact c_law_18 l hl D cI cJ cZ ab ao a5 a3 a6 a1 a0 a8 C XE XN hX hbl hbA cl sl (by omega) (by omega) i _ hk B P M T K U L O S V (zif hF h18)
    have hF := zelse hF h18
    by_cases h19 : x = 19
    · refine z_topeq h19 ?_
      refine z_tableIn (off := 1340) (tgt := 1380) C dL_law_40 (by decide) (by decide) (by decide) (by decide) ?_
      exact c_law_19 l hl D cI cJ cZ ab ao a5 a3 a6 a1 a0 a8 C XE XN hX hbl hbA cl sl (by omega) (by omega) i _ hk B P M T K U L O S V (zif hF h19)
    have hF := zelse hF h19
    by_cases h20 : x = 20
    · refine z_topeq h20 ?_
      refine z_tableIn (off := 1403) (tgt := 1443) C dL_law_40 (by decide) (by decide) (by decide) (by decide) ?_
      exact c_law_20 l hl D cI cJ cZ ab ao a5 a3 a6 a1 a0 a8 C XE XN hX hbl hbA cl sl (by omega) (by omega) i _ hk B P M T K U L O S V (zif hF h20)
    have hF := zelse hF h20
    by_cases h21 : x = 21
    · refine z_topeq h21 ?_
      refine z_tableIn (off := 1459) (tgt := 1499) C dL_law_40 (by decide) (by decide) (by decide) (by decide) ?_
      exact c_law_21 l hl D cI cJ cZ ab ao a5 a3 a6 a1 a0 a8 C XE XN hX hbl hbA cl sl (by omega) (by omega) i _ hk B P M T K U L O S V (zif hF h21)
    have hF := zelse hF h21
    by_cases h22 : x = 22
    · refine z_topeq h22 ?_
      refine z_tableIn (off := 1472) (tgt := 1512) C dL_law_40 (by decide) (by decide) (by decide) (by decide) ?_
      exact c_law_22 l hl D cI cJ cZ ab ao a5 a3 a6 a1 a0 a8 C XE XN hX hbl hbA cl sl (by omega) (by omega) i _ hk B P M T K U L O S V (zif hF h22)
    have hF := zelse hF h22
    by_cases h23 : x = 23
    · refine z_topeq h23 ?_
      refine z_tableIn (off := 1528) (tgt := 1568) C dL_law_40 (by decide) (by decide) (by decide) (by decide) ?_
      exact c_law_23 l hl D cI cJ cZ ab ao a5 a3 a6 a1 a0 a8 C XE XN hX hbl hbA cl sl (by omega) (by omega) i _ hk B P M T K U L O S V (zif hF h23)
    have hF := zelse hF h23
    by_cases h24 : x = 24
    · refine z_topeq h24 ?_
      refine z_tableIn (off := 1584) (tgt := 1624) C dL_law_40 (by decide) (by decide) (by decide) (by decide) ?_
      exact c_law_24 l hl D cI cJ cZ ab ao a5 a3 a6 a1 a0 a8 C XE XN hX hbl hbA cl sl (by omega) (by omega) i _ hk B P M T K U L O S V (zif hF h24)
    have hF := zelse hF h24
    by_cases h25 : x = 25
    · refine z_topeq h25 ?_
      refine z_tableIn (off := 1597) (tgt := 1637) C dL_law_40 (by decide) (by decide) (by decide) (by decide) ?_
      exact c_law_25 l hl D cI cJ cZ ab ao a5 a3 a6 a1 a0 a8 C XE XN hX hbl hbA cl sl (by omega) (by omega) i _ hk B P M T K U L O S V (zif hF h25)
    have hF := zelse hF h25
    by_cases h26 : x = 26
    · refine z_topeq h26 ?_
      refine z_tableIn (off := 1610) (tgt := 1650) C dL_law_40 (by decide) (by decide) (by decide) (by decide) ?_
      exact c_law_26 l hl D cI cJ cZ ab ao a5 a3 a6 a1 a0 a8 C XE XN hX hbl hbA cl sl (by omega) (by omega) i _ hk B P M T K U L O S V (zif hF h26)
    have hF := zelse hF h26
    by_cases h27 : x = 27
    · refine z_topeq h27 ?_
      refine z_tableIn (off := 1623) (tgt := 1663) C dL_law_40 (by decide) (by decide) (by decide) (by decide) ?_
      exact c_law_27 l hl D cI cJ cZ ab ao a5 a3 a6 a1 a0 a8 C XE XN hX hbl hbA cl sl (by omega) (by omega) i _ hk B P M T K U L O S V (zif hF h27)
    have hF := zelse hF h27
    by_cases h28 : x = 28
    · refine z_topeq h28 ?_
      refine z_tableIn (off := 1679) (tgt := 1719) C dL_law_40 (by decide) (by decide) (by decide) (by decide) ?_
      exact c_law_28 l hl D cI cJ cZ ab ao a5 a3 a6 a1 a0 a8 C XE XN hX hbl hbA cl sl (by omega) (by omega) i _ hk B P M T K U L O S V (zif hF h28)
    have hF := zelse hF h28
    by_cases h29 : x = 29
    · refine z_topeq h29 ?_
      refine z_tableIn (off := 1735) (tgt := 1775) C dL_law_40 (by decide) (by decide) (by decide) (by decide) ?_
      exact c_law_29 l hl D cI cJ cZ ab ao a5 a3 a6 a1 a0 a8 C XE XN hX hbl hbA cl sl (by omega) (by omega) i _ hk B P M T K U L O S V (zif hF h29)
    have hF := zelse hF h29
    by_cases h30 : x = 30
    · refine z_topeq h30 ?_
      refine z_tableIn (off := 1791) (tgt := 1831) C dL_law_40 (by decide) (by decide) (by decide) (by decide) ?_
      exact c_law_30 l hl D cI cJ cZ ab ao a5 a3 a6 a1 a0 a8 C XE XN hX hbl hbA cl sl (by omega) (by omega) i _ hk B P M T K U L O S V (zif hF h30)
    have hF := zelse hF h30
    have hj31 : j = 31 := by
      have q0 : j ≠ 0 := fun q => h0 (by rw [hx, q]; rfl)
      have q1 : j ≠ 1 := fun q => h1 (by rw [hx, q]; rfl)
      have q2 : j ≠ 2 := fun q => h2 (by rw [hx, q]; rfl)
      have q3 : j ≠ 3 := fun q => h3 (by rw [hx, q]; rfl)
      have q4 : j ≠ 4 := fun q => h4 (by rw [hx, q]; rfl)
      have q5 : j ≠ 5 := fun q => h5 (by rw [hx, q]; rfl)
      have q6 : j ≠ 6 := fun q => h6 (by rw [hx, q]; rfl)
      have q7 : j ≠ 7 := fun q => h7 (by rw [hx, q]; rfl)
      have q8 : j ≠ 8 := fun q => h8 (by rw [hx, q]; rfl)
      have q9 : j ≠ 9 := fun q => h9 (by rw [hx, q]; rfl)
      have q10 : j ≠ 10 := fun q => h10 (by rw [hx, q]; rfl)
      have q11 : j ≠ 11 := fun q => h11 (by rw [hx, q]; rfl)
      have q12 : j ≠ 12 := fun q => h12 (by rw [hx, q]; rfl)
      have q13 : j ≠ 13 := fun q => h13 (by rw [hx, q]; rfl)
      have q14 : j ≠ 14 := fun q => h14 (by rw [hx, q]; rfl)
      have q15 : j ≠ 15 := fun q => h15 (by rw [hx, q]; rfl)
      have q16 : j ≠ 16 := fun q => h16 (by rw [hx, q]; rfl)
      have q17 : j ≠ 17 := fun q => h17 (by rw [hx, q]; rfl)
      have q18 : j ≠ 18 := fun q => h18 (by rw [hx, q]; rfl)
      have q19 : j ≠ 19 := fun q => h19 (by rw [hx, q]; rfl)
      have q20 : j ≠ 20 := fun q => h20 (by rw [hx, q]; rfl)
      have q21 : j ≠ 21 := fun q => h21 (by rw [hx, q]; rfl)
      have q22 : j ≠ 22 := fun q => h22 (by rw [hx, q]; rfl)
      have q23 : j ≠ 23 := fun q => h23 (by rw [hx, q]; rfl)
      have q24 : j ≠ 24 := fun q => h24 (by rw [hx, q]; rfl)
      have q25 : j ≠ 25 := fun q => h25 (by rw [hx, q]; rfl)
      have q26 : j ≠ 26 := fun q => h26 (by rw [hx, q]; rfl)
      have q27 : j ≠ 27 := fun q => h27 (by rw [hx, q]; rfl)
      have q28 : j ≠ 28 := fun q => h28 (by rw [hx, q]; rfl)
      have q29 : j ≠ 29 := fun q => h29 (by rw [hx, q]; rfl)
      have q30 : j ≠ 30 := fun q => h30 (by rw [hx, q]; rfl)
      omega
    refine z_tableOut (tgt := 1886) C dL_law_40 (Or.inr ?_) (by decide) ?_
    · rw [hx, hj31]; decide
    · refine z_iwiden (k := cl + 1) (n := sl + 6) (Nat.le_succ _) (Nat.le_add_right _ _) ?_
      exact hk B P M T K U L O S V hF
theorem kL_7l : Cond.classLink RL 8 RX7 ∈ wsL_law := by decide +kernel
theorem kL_7i : Cond.instantiable RX7 6 ∈ wsL_law := by decide +kernel
theorem kL_7n : Cond.initialized RX7 ∈ wsL_law := by decide +kernel
theorem kL_7c : Cond.initialized yX7_init.cls ∈ wsL_law := by decide +kernel
theorem kL_7m : Cond.methodLink RL 101 yX7_init ∈ wsL_law := by decide +kernel
theorem kL_7s : Cond.instanceMethod yX7_init ∈ wsL_law := by decide +kernel
theorem kL_8l : Cond.classLink RL 102 RX8 ∈ wsL_law := by decide +kernel
theorem kL_8i : Cond.instantiable RX8 31 ∈ wsL_law := by decide +kernel
theorem kL_8n : Cond.initialized RX8 ∈ wsL_law := by decide +kernel
theorem kL_8c : Cond.initialized yX8_init.cls ∈ wsL_law := by decide +kernel
theorem kL_8m : Cond.methodLink RL 104 yX8_init ∈ wsL_law := by decide +kernel
theorem kL_8s : Cond.instanceMethod yX8_init ∈ wsL_law := by decide +kernel
theorem kL_aJ : Cond.arrayClass (newarray.typeOf .long) ∈ wsL_law := by decide +kernel
set_option maxHeartbeats 4000000 in
set_option maxRecDepth 100000 in
theorem lw_body {p : Program} {e : Env} {s : State} {m : MethodId} {below : List Frame} {meth : Method} {c : Code} (l : Launch) (hl : l.stackTraces = false) {b L : Nat} {xs : Nat → Int32} (hL : L ≤ 3072) (D : va_G) (cI cJ cZ : ClassId) (C : zC p s m #[.ref b] meth c cL_law 8 ret RL wsL_law D (zTy cI cJ cZ) (fun q : Nat => s.heap.size ≤ q) s.heap) (XE : zE (fun q : Nat => s.heap.size ≤ q) s s.heap) (XN : zN s) (XW : zNw zNest7 s) (hX : va_X b L xs s s.heap) (hbl : b < s.heap.size) :
    zW p l e room_1 s m #[.ref b] below meth c 8 D (fun q : Nat => s.heap.size ≤ q) s.heap 0 0 (lw_Z below #[Value.ref b] s) [] [(0, .ref b)] 0 [] := by
  refine z_new (ci := 5) (fs := [.null, .null, .null, .null, .null, .int 0]) C inlX7 tyX7 tyX7_ok kL_7l kL_7i kL_7n rfl (fun j hj => by rcases (show j = 0 ∨ j = 1 ∨ j = 2 ∨ j = 3 ∨ j = 4 ∨ j = 5 by omega) with rfl | rfl | rfl | rfl | rfl | rfl <;> rfl) (Nat.le_of_ble_eq_true rfl) (Nat.le_of_ble_eq_true rfl) dL_law_0 (fun q7 => ?_)
  refine z_dup C dL_law_3 rfl ?_
  refine z_callI (maxL := 1) C XW (i_X7 l D cI cJ cZ q7) (fun _ h => h) gL_law_X7_init rfl kL_7c kL_7m kL_7s rfl (by decide +kernel) ⟨(Nat.le_of_ble_eq_true rfl), (Nat.le_of_ble_eq_true rfl)⟩ ⟨(Nat.le_of_ble_eq_true rfl), (Nat.le_of_ble_eq_true rfl)⟩ [] [] rfl (Nat.le_of_ble_eq_true rfl) dL_law_4 (fun ad _ => ?_)
  obtain ⟨a5, a3, a6, a1, a0⟩ := ad
  refine z_ws (ws' := zwX7 cI cJ cZ q7 a5 a3 a6 a1 a0 zP0 zP0 zP0 zT2 zP0 zP0 zL0) rfl ?_
  refine z_astore_n (lv' := [(1, .ref q7), (0, .ref b)]) C dL_law_7 rfl (by decide) rfl ?_
  refine z_new (ci := 6) (fs := [.int 0, .int 0, .int 0, .null, .null, .null, .null, .int 0, .null, .null, .null, .int 0, .null, .null, .null, .null, .null, .null, .null, .int 0, .null, .null, .null, .null, .null, .null, .int 0, .null, .null, .null, .null]) C inlX8 tyX8 tyX8_ok kL_8l kL_8i kL_8n rfl (fun j hj => by rcases (show j = 0 ∨ j = 1 ∨ j = 2 ∨ j = 3 ∨ j = 4 ∨ j = 5 ∨ j = 6 ∨ j = 7 ∨ j = 8 ∨ j = 9 ∨ j = 10 ∨ j = 11 ∨ j = 12 ∨ j = 13 ∨ j = 14 ∨ j = 15 ∨ j = 16 ∨ j = 17 ∨ j = 18 ∨ j = 19 ∨ j = 20 ∨ j = 21 ∨ j = 22 ∨ j = 23 ∨ j = 24 ∨ j = 25 ∨ j = 26 ∨ j = 27 ∨ j = 28 ∨ j = 29 ∨ j = 30 by omega) with rfl | rfl | rfl | rfl | rfl | rfl | rfl | rfl | rfl | rfl | rfl | rfl | rfl | rfl | rfl | rfl | rfl | rfl | rfl | rfl | rfl | rfl | rfl | rfl | rfl | rfl | rfl | rfl | rfl | rfl | rfl <;> rfl) (Nat.le_of_ble_eq_true rfl) (Nat.le_of_ble_eq_true rfl) dL_law_8 (fun q8 => ?_)
  refine z_dup C dL_law_11 rfl ?_
  refine z_callI (maxL := 1) C XW (i_X8 l D cI cJ cZ q8) (fun _ h => absurd h List.not_mem_nil) gL_law_X8_init rfl kL_8c kL_8m kL_8s rfl (by decide +kernel) ⟨(Nat.le_of_ble_eq_true rfl), (Nat.le_of_ble_eq_true rfl)⟩ ⟨(Nat.le_of_ble_eq_true rfl), (Nat.le_of_ble_eq_true rfl)⟩ (zwX7 cI cJ cZ q7 a5 a3 a6 a1 a0 zP0 zP0 zP0 zT2 zP0 zP0 zL0) [] rfl (Nat.le_of_ble_eq_true rfl) dL_law_12 (fun a8 hok => ?_)
  subst hok
  refine z_ws (ws' := zwX7 cI cJ cZ q7 a5 a3 a6 a1 a0 zP0 zP0 zP0 zT2 zP0 zP0 zL0 ++ zwX8 cI cJ cZ a8 zS1 zL0) rfl ?_
  refine z_astore_n (lv' := [(2, .ref (a8 0)), (1, .ref q7), (0, .ref b)]) C dL_law_15 rfl (by decide) rfl ?_
  refine z_iconst (v := 1) C dL_law_16 (by decide) ?_
  refine z_newarr (ty := .long) (N := 1) (a0 := (1, .inr (.inl (fun _ => 0)))) C kL_aJ rfl 1 rfl (fun _ _ h => h) (fun _ => rfl) (by decide) rfl (Nat.le_of_ble_eq_true rfl) (Nat.le_of_ble_eq_true rfl) (Nat.le_of_ble_eq_true rfl) dL_law_17 (fun ao => ?_)
  refine z_wsub (ws' := zwX7 cI cJ cZ q7 a5 a3 a6 a1 a0 zP0 zP0 zP0 zT2 zP0 zP0 zL0 ++ (zwO cJ ao (fun _ => 0) ++ zwX8 cI cJ cZ a8 zS1 zL0)) [0, 1, 2, 3, 4, 5, 6, 7, 8, 9, 10, 11, 12, 13, 14, 15, 16, 17, 18, 19, 20, 21, 22, 23, 24, 25, 26, 27, 28, 29, 55, 30, 31, 32, 33, 34, 35, 36, 37, 38, 39, 40, 41, 42, 43, 44, 45, 46, 47, 48, 49, 50, 51, 52, 53, 54] (by decide +kernel) rfl rfl ?_
  refine z_astore_n (lv' := [(3, .ref ao), (2, .ref (a8 0)), (1, .ref q7), (0, .ref b)]) C dL_law_19 rfl (by decide) rfl ?_
  refine z_iconst (v := 0) C dL_law_20 (by decide) ?_
  refine z_istore (lv' := [(4, .int 0), (3, .ref ao), (2, .ref (a8 0)), (1, .ref q7), (0, .ref b)]) C dL_law_21 (by decide) rfl ?_
  refine z_sub (lv' := [(0, .ref b), (1, .ref q7), (2, .ref (a8 0)), (3, .ref ao), (4, .int 0)]) C [4, 3, 2, 1, 0] rfl ?_
  exact lw_loop l hl D cI cJ cZ q7 ao a5 a3 a6 a1 a0 a8 C XE XN hX hbl 600 _ _ 0 zP0 zP0 zP0 zT2 zP0 zP0 zL0 (fun _ => 0) zS1 zL0 (Nat.le_of_ble_eq_true rfl) (Nat.le_of_ble_eq_true rfl) (lp_start xs hL _)
/-- YOUR PART: from the entry, for every script of at most 3072 ints, the law comes to its end with true ('hflags': the launch's flags, for a law that throws: no stack traces) -/
theorem whole_start {p : Program} {e : Env} {s : State} {m : MethodId} {below : List Frame} {meth : Method} {c : Code} (l : Launch) (hflags : l.flags = flags0) {b L : Nat} {xs : Nat → Int32} (hL : L ≤ 3072) (C0 : lw_At p s m meth c b L xs) : W p l e room_1 s m #[Value.ref b] below meth c s.heap [] 0 0 (lw_Z below #[Value.ref b] s) (entryFrame m ([Value.ref b] : List Value).toArray 8) := by
  obtain ⟨hx, hb, hr, hml, hown, hts, hX, hbl, hlocks, hgv⟩ := C0
  have hl : l.stackTraces = false := by
    unfold Launch.stackTraces
    rw [hflags]
    decide +kernel

  obtain ⟨c0, f0, hK0⟩ := u_known (C := RX0) (T := TX0) (N := 5) (n := 5) hts inX0 (hts (.instantiable RX0 5) (by decide +kernel))
  obtain ⟨c1, f1, hK1⟩ := u_known (C := RX1) (T := TX1) (N := 8) (n := 8) hts inX1 (hts (.instantiable RX1 8) (by decide +kernel))
  obtain ⟨c2, f2, hK2⟩ := u_known (C := RX3) (T := TX3) (N := 4) (n := 4) hts inX3 (hts (.instantiable RX3 4) (by decide +kernel))
  obtain ⟨c3, f3, hK3⟩ := u_known (C := RX5) (T := TX5) (N := 5) (n := 5) hts inX5 (hts (.instantiable RX5 5) (by decide +kernel))
  obtain ⟨c4, f4, hK4⟩ := u_known (C := RX6) (T := TX6) (N := 9) (n := 9) hts inX6 (hts (.instantiable RX6 9) (by decide +kernel))
  obtain ⟨c5, f5, hK5⟩ := u_known (C := RX7) (T := TX7) (N := 6) (n := 6) hts inX7 (hts (.instantiable RX7 6) (by decide +kernel))
  obtain ⟨c6, f6, hK6⟩ := u_known (C := RX8) (T := TX8) (N := 31) (n := 31) hts inX8 (hts (.instantiable RX8 31) (by decide +kernel))
  obtain ⟨cI, hI1, hI2⟩ := st_arr (ty := .int) (fun _ h => by cases h) (hts (.arrayClass .int) (by decide +kernel))
  obtain ⟨cJ, hJ1, hJ2⟩ := st_arr (ty := .long) (fun _ h => by cases h) (hts (.arrayClass .long) (by decide +kernel))
  obtain ⟨cZ, hZ1, hZ2⟩ := st_arr (ty := .boolean) (fun _ h => by cases h) (hts (.arrayClass .boolean) (by decide +kernel))
  obtain ⟨dC, dI, hKc⟩ : ∃ (dC : Nat → ClassId) (dI : Nat → Nat → Nat), ∀ (k : Nat) (q : vw_C), vwCl[k]? = some q → u_Kn s q.1 q.2.1 q.2.2 (dC k) (dI k) := by
    refine ⟨fun k => [c0, c1, c2, c3, c4, c5, c6].getD k c0, fun k => [f0, f1, f2, f3, f4, f5, f6].getD k f0, ?_⟩
    intro k q hq
    match k, hq with
    | 0, hq => cases hq; exact hK0
    | 1, hq => cases hq; exact hK1
    | 2, hq => cases hq; exact hK2
    | 3, hq => cases hq; exact hK3
    | 4, hq => cases hq; exact hK4
    | 5, hq => cases hq; exact hK5
    | 6, hq => cases hq; exact hK6
    | k + 7, hq => simp [vwCl] at hq
  have hK : va_K (dC, dI) vwCl (zTy cI cJ cZ) s := by
    refine ⟨hKc, fun k q h => ?_⟩
    match k, h with
    | 0, h => cases h; exact ⟨hI1, hI2⟩
    | 1, h => cases h; exact ⟨hJ1, hJ2⟩
    | 2, h => cases h; exact ⟨hZ1, hZ2⟩
    | k + 3, h => simp at h
  have C : zC p s m #[.ref b] meth c cL_law 8 ret RL wsL_law (dC, dI) (zTy cI cJ cZ) (fun q : Nat => s.heap.size ≤ q) s.heap := ⟨hx, hb, hml, hown, fun w hw => hts w (wsL_law_in w hw), hK, fun _ h => h, hlocks, hr⟩
  have XW : zNw zNest7 s := fun q hq => va_Nw.of rfl (hts _ (st_nw q hq))
  rw [lg_entry_eq]
  exact lw_body l hl hL (dC, dI) cI cJ cZ C (st_zE hts hgv) (st_zN hgv) XW hX hbl s.heap [] _ (fun k q h => by simp at h) ⟨fun i j p q h => by simp at h, fun k q h => by simp at h⟩ va_S.rf (lv_entry [.ref b] (Nat.le_of_ble_eq_true rfl))
