def R_law : String := "SecretBrokerLaw"
def lw_P (b : Addr) (xs : List Int32) (args : Array Value) (s : State) : Prop := args = #[.ref b] ∧ s.IntsAt b xs ∧ xs.length ≤ 260 ∧ (Jvm.Cond.and given_1 narrow_1).before args s = true
/-- what holds at the law's entry: the machine, the code, the tables' words (any of lw_tbl by 'hts w (by decide +kernel)'), the script of L ints xs at the cell b, what the Statement gives of the start (any of its parts by flat_of_before) -/
def lw_At (p : Program) (s : State) (m : MethodId) (meth : Method) (c : Code) (b L : Nat) (xs : Nat → Int32) : Prop :=
  p.tables.exec = Jvm.exec ∧ c.code = code ∧ meth.sig.returnType = ret ∧ c.maxLocals = 22 ∧ s.vm.findClass R_law = some m.cls ∧ (∀ w ∈ lw_tbl, w.before #[Value.ref b] s = true) ∧ va_X b L xs s s.heap ∧ b < s.heap.size ∧ meth.locks = false ∧ (Jvm.Cond.and given_1 narrow_1).before #[Value.ref b] s = true
theorem st_arr {args : Array Value} {s : State} {ty : FieldType} (hno : ∀ C, ty ≠ .object C) (h : (Cond.arrayClass ty).before args s = true) : ∃ cA : ClassId, ArrOfT s cA ty ∧ s.vm.findClass ("[" ++ ty.toString) = some cA := by
  obtain ⟨cA, kA, comp, h1, h2, h3⟩ := Cond.arrayClass_spec h
  exact ⟨cA, fun n z => ⟨fun k h => (by cases h), kA, h2, comp, h3⟩, h1⟩
def zNest7 : List (String × Nat × MethodName × String) := [(RX7, 9, yX5_init, "SecretBroker"), (RX7, 18, yX3_init, "SecretBroker"), (RX7, 32, yX1_init, "SecretBroker"), (RX7, 39, yX0_init, "SecretBroker"), (RX6, 3, yX2_init, "SecretBroker"), (RX1, 3, yX2_init, "SecretBroker")]
theorem st_nw : ∀ q ∈ zNest7, zNx q ∈ lw_tbl := by decide +kernel
theorem st_str : ∀ q ∈ zStr, Cond.stringRef RX7 q.1 q.2 ∈ lw_tbl := by decide +kernel
theorem st_ex : ∀ q ∈ zStr, Cond.exactly (.string RX7 q.1) "java/lang/String" ∈ flatC (Jvm.Cond.and given_1 narrow_1) := by decide +kernel
theorem st_zE {s : State} {args : Array Value} (hts : ∀ w ∈ lw_tbl, w.before args s = true) (hgv : (Jvm.Cond.and given_1 narrow_1).before args s = true) : zE (fun q : Nat => s.heap.size ≤ q) s s.heap := by
  have hg := flat_of_before _ hgv
  refine ⟨vx_Zqof (hts _ (by decide +kernel)) (hts _ (by decide +kernel)) (hg _ (by decide +kernel)) (fun a ha => Nat.not_le.mpr ha), vx_Zqof (hts _ (by decide +kernel)) (hts _ (by decide +kernel)) (hg _ (by decide +kernel)) (fun a ha => Nat.not_le.mpr ha), ⟨⟨va_Nw.of rfl (hts _ (by decide +kernel)), va_Nw.of rfl (hts _ (by decide +kernel)), va_Nw.of rfl (hts _ (by decide +kernel))⟩, va_Nw.of rfl (hts _ (by decide +kernel)), va_Nw.of rfl (hts _ (by decide +kernel)), va_Nw.of rfl (hts _ (by decide +kernel))⟩, fun q hq => ?_⟩
  obtain ⟨a, _, _, _, h1, _⟩ := Cond.exactly_spec (hg _ (st_ex q hq))
  exact ⟨a, vk_R.of (hts _ (st_str q hq)) h1⟩
theorem st_zN {s : State} {args : Array Value} (hgv : (Jvm.Cond.and given_1 narrow_1).before args s = true) : zN s := by
  have hg := flat_of_before _ hgv
  exact ⟨va_Nc.of (hg _ (by decide +kernel)), va_Nc.of (hg _ (by decide +kernel)), va_Nc.of (hg _ (by decide +kernel))⟩
section ZZ
variable {p : Program} {l : Launch} {e : Env} {s : State} {m : MethodId} {below : List Frame} {meth : Method} {c : Code} {cells slots : Nat}
variable {Ts : List Cond} {D : va_G} {lv : List (Nat × Value)} {ws ws' : va_W} {pc : Nat} {b : Nat} {st : List Value}
end ZZ
theorem kL_7l : Cond.classLink RL 44 RX7 ∈ wsL_law := by decide +kernel
theorem kL_7i : Cond.instantiable RX7 6 ∈ wsL_law := by decide +kernel
theorem kL_7n : Cond.initialized RX7 ∈ wsL_law := by decide +kernel
theorem kL_7c : Cond.initialized yX7_init.cls ∈ wsL_law := by decide +kernel
theorem kL_7m : Cond.methodLink RL 143 yX7_init ∈ wsL_law := by decide +kernel
theorem kL_7s : Cond.instanceMethod yX7_init ∈ wsL_law := by decide +kernel
theorem kL_aJ : Cond.arrayClass (newarray.typeOf .long) ∈ wsL_law := by decide +kernel
theorem kL_aI : Cond.arrayClass (newarray.typeOf .int) ∈ wsL_law := by decide +kernel
set_option maxHeartbeats 4000000 in
set_option maxRecDepth 100000 in
theorem lw_body2 {p : Program} {e : Env} {s : State} {m : MethodId} {below : List Frame} {meth : Method} {c : Code} (l : Launch) (hl : l.stackTraces = false) {b L u : Nat} {xs : Nat → Int32} (D : va_G) (cI cJ cZ : ClassId) (C : zC p s m #[.ref b] meth c cL_law 22 ret RL wsL_law D (zTy cI cJ cZ) (zAq s) s.heap) (XE : zE (zAq s) s s.heap) (XN : zN s) (XW : zNw zNest7 s) (hX : va_X b L xs s s.heap) (hbl : b < s.heap.size)
    (hF : f_L_law_52 xs L zP0 zP0 zP0 zT2 zP0 zP0 zL0 zP0 zL0 0 = some u) :
    zW p l e room_R s m #[.ref b] below meth c 22 D (zAq s) s.heap 0 0 (lw_Z2 below s u) [] [(0, .ref b)] 0 [] := by
  refine z_new (ci := 5) (fs := [.null, .null, .null, .null, .null, .int 0]) C inlX7 tyX7 tyX7_ok kL_7l kL_7i kL_7n rfl (fun j hj => by rcases (show j = 0 ∨ j = 1 ∨ j = 2 ∨ j = 3 ∨ j = 4 ∨ j = 5 by omega) with rfl | rfl | rfl | rfl | rfl | rfl <;> rfl) (Nat.le_of_ble_eq_true rfl) (Nat.le_of_ble_eq_true rfl) dL_law_0 (fun q7 => ?_)
  refine z_dup C dL_law_3 rfl ?_
  refine z_callI (maxL := 1) C XW (i_X7 l D cI cJ cZ q7) (fun _ h => h) gL_law_X7_init rfl kL_7c kL_7m kL_7s rfl (by decide +kernel) ⟨(Nat.le_of_ble_eq_true rfl), (Nat.le_of_ble_eq_true rfl)⟩ ⟨(Nat.le_of_ble_eq_true rfl), (Nat.le_of_ble_eq_true rfl)⟩ [] [] rfl (Nat.le_of_ble_eq_true rfl) dL_law_4 (fun ad _ => ?_)
  obtain ⟨a5, a3, a6, a1, a0⟩ := ad
  refine z_ws (ws' := zwX7 cI cJ cZ q7 a5 a3 a6 a1 a0 zP0 zP0 zP0 zT2 zP0 zP0 zL0) rfl ?_
  refine z_astore_n (lv' := [(1, .ref q7), (0, .ref b)]) C dL_law_7 rfl (by decide) rfl ?_
  refine z_bipush (v := 6) C dL_law_8 (by decide) ?_
  refine z_newarr (ty := .int) (N := 6) (a0 := (6, .inl (fun _ => 0))) C kL_aI rfl 0 rfl (fun _ _ h => h) (fun _ => rfl) (by decide) rfl (Nat.le_of_ble_eq_true rfl) (Nat.le_of_ble_eq_true rfl) (Nat.le_of_ble_eq_true rfl) dL_law_10 (fun w0 => ?_)
  refine z_astore_n (lv' := [(2, .ref w0), (1, .ref q7), (0, .ref b)]) C dL_law_12 rfl (by decide) rfl ?_
  refine z_bipush (v := 60) C dL_law_13 (by decide) ?_
  refine z_newarr (ty := .int) (N := 60) (a0 := (60, .inl (fun _ => 0))) C kL_aI rfl 0 rfl (fun _ _ h => h) (fun _ => rfl) (by decide) rfl (Nat.le_of_ble_eq_true rfl) (Nat.le_of_ble_eq_true rfl) (Nat.le_of_ble_eq_true rfl) dL_law_15 (fun w1 => ?_)
  refine z_astore_n (lv' := [(3, .ref w1), (2, .ref w0), (1, .ref q7), (0, .ref b)]) C dL_law_17 rfl (by decide) rfl ?_
  refine z_bipush (v := 60) C dL_law_18 (by decide) ?_
  refine z_newarr (ty := .int) (N := 60) (a0 := (60, .inl (fun _ => 0))) C kL_aI rfl 0 rfl (fun _ _ h => h) (fun _ => rfl) (by decide) rfl (Nat.le_of_ble_eq_true rfl) (Nat.le_of_ble_eq_true rfl) (Nat.le_of_ble_eq_true rfl) dL_law_20 (fun w2 => ?_)
  refine z_astore (lv' := [(4, .ref w2), (3, .ref w1), (2, .ref w0), (1, .ref q7), (0, .ref b)]) C dL_law_22 (by decide) rfl ?_
  refine z_bipush (v := 18) C dL_law_24 (by decide) ?_
  refine z_newarr (ty := .int) (N := 18) (a0 := (18, .inl (fun _ => 0))) C kL_aI rfl 0 rfl (fun _ _ h => h) (fun _ => rfl) (by decide) rfl (Nat.le_of_ble_eq_true rfl) (Nat.le_of_ble_eq_true rfl) (Nat.le_of_ble_eq_true rfl) dL_law_26 (fun w3 => ?_)
  refine z_astore (lv' := [(5, .ref w3), (4, .ref w2), (3, .ref w1), (2, .ref w0), (1, .ref q7), (0, .ref b)]) C dL_law_28 (by decide) rfl ?_
  refine z_bipush (v := 18) C dL_law_30 (by decide) ?_
  refine z_newarr (ty := .int) (N := 18) (a0 := (18, .inl (fun _ => 0))) C kL_aI rfl 0 rfl (fun _ _ h => h) (fun _ => rfl) (by decide) rfl (Nat.le_of_ble_eq_true rfl) (Nat.le_of_ble_eq_true rfl) (Nat.le_of_ble_eq_true rfl) dL_law_32 (fun w4 => ?_)
  refine z_astore (lv' := [(6, .ref w4), (5, .ref w3), (4, .ref w2), (3, .ref w1), (2, .ref w0), (1, .ref q7), (0, .ref b)]) C dL_law_34 (by decide) rfl ?_
  refine z_iconst (v := 3) C dL_law_36 (by decide) ?_
  refine z_newarr (ty := .int) (N := 3) (a0 := (3, .inl (fun _ => 0))) C kL_aI rfl 0 rfl (fun _ _ h => h) (fun _ => rfl) (by decide) rfl (Nat.le_of_ble_eq_true rfl) (Nat.le_of_ble_eq_true rfl) (Nat.le_of_ble_eq_true rfl) dL_law_37 (fun w5 => ?_)
  refine z_astore (lv' := [(7, .ref w5), (6, .ref w4), (5, .ref w3), (4, .ref w2), (3, .ref w1), (2, .ref w0), (1, .ref q7), (0, .ref b)]) C dL_law_39 (by decide) rfl ?_
  refine z_bipush (v := 12) C dL_law_41 (by decide) ?_
  refine z_newarr (ty := .int) (N := 12) (a0 := (12, .inl (fun _ => 0))) C kL_aI rfl 0 rfl (fun _ _ h => h) (fun _ => rfl) (by decide) rfl (Nat.le_of_ble_eq_true rfl) (Nat.le_of_ble_eq_true rfl) (Nat.le_of_ble_eq_true rfl) dL_law_43 (fun w6 => ?_)
  refine z_astore (lv' := [(8, .ref w6), (7, .ref w5), (6, .ref w4), (5, .ref w3), (4, .ref w2), (3, .ref w1), (2, .ref w0), (1, .ref q7), (0, .ref b)]) C dL_law_45 (by decide) rfl ?_
  refine z_iconst (v := 1) C dL_law_47 (by decide) ?_
  refine z_newarr (ty := .long) (N := 1) (a0 := (1, .inr (.inl (fun _ => 0)))) C kL_aJ rfl 1 rfl (fun _ _ h => h) (fun _ => rfl) (by decide) rfl (Nat.le_of_ble_eq_true rfl) (Nat.le_of_ble_eq_true rfl) (Nat.le_of_ble_eq_true rfl) dL_law_48 (fun w7 => ?_)
  refine z_astore (lv' := [(9, .ref w7), (8, .ref w6), (7, .ref w5), (6, .ref w4), (5, .ref w3), (4, .ref w2), (3, .ref w1), (2, .ref w0), (1, .ref q7), (0, .ref b)]) C dL_law_50 (by decide) rfl ?_
  refine z_ws (ws' := zwX7 cI cJ cZ q7 a5 a3 a6 a1 a0 zP0 zP0 zP0 zT2 zP0 zP0 zL0 ++ zwW cI cJ cZ (fun k => ([w0, w1, w2, w3, w4, w5, w6, w7] : List Nat).getD k 0) zP0 zL0) rfl ?_
  refine z_sub (lv' := [(0, .ref b), (1, .ref q7), (2, .ref ((fun k => ([w0, w1, w2, w3, w4, w5, w6, w7] : List Nat).getD k 0) 0)), (3, .ref ((fun k => ([w0, w1, w2, w3, w4, w5, w6, w7] : List Nat).getD k 0) 1)), (4, .ref ((fun k => ([w0, w1, w2, w3, w4, w5, w6, w7] : List Nat).getD k 0) 2)), (5, .ref ((fun k => ([w0, w1, w2, w3, w4, w5, w6, w7] : List Nat).getD k 0) 3)), (6, .ref ((fun k => ([w0, w1, w2, w3, w4, w5, w6, w7] : List Nat).getD k 0) 4)), (7, .ref ((fun k => ([w0, w1, w2, w3, w4, w5, w6, w7] : List Nat).getD k 0) 5)), (8, .ref ((fun k => ([w0, w1, w2, w3, w4, w5, w6, w7] : List Nat).getD k 0) 6)), (9, .ref ((fun k => ([w0, w1, w2, w3, w4, w5, w6, w7] : List Nat).getD k 0) 7))]) C [9, 8, 7, 6, 5, 4, 3, 2, 1, 0] rfl ?_
  refine z_pad0 C ?_
  refine z_iwiden (k := 38) (n := 9106) (Nat.le_of_ble_eq_true rfl) (Nat.le_of_ble_eq_true rfl) ?_
  exact c_L_law_j52 l hl D cI cJ cZ q7 a5 a3 a6 a1 a0 (fun k => ([w0, w1, w2, w3, w4, w5, w6, w7] : List Nat).getD k 0) u C XE XN hX hbl 38 9106 (Nat.le_of_ble_eq_true rfl) (Nat.le_of_ble_eq_true rfl) zP0 zP0 zP0 zT2 zP0 zP0 zL0 zP0 zL0 0 hF
theorem whole_start2 {p : Program} {e : Env} {s : State} {m : MethodId} {below : List Frame} {meth : Method} {c : Code} (l : Launch) (hflags : l.flags = flags0) {b L : Nat} {xs : Nat → Int32} {u : Nat} (hF : f_L_law_52 xs L zP0 zP0 zP0 zT2 zP0 zP0 zL0 zP0 zL0 0 = some u) (C0 : lw_At p s m meth c b L xs) : W p l e room_R s m #[Value.ref b] below meth c s.heap [] 0 0 (lw_Z2 below s u) (entryFrame m ([Value.ref b] : List Value).toArray 22) := by
  obtain ⟨hx, hb, hr, hml, hown, hts, hX, hbl, hlocks, hgv⟩ := C0
  have hl : l.stackTraces = false := by
    unfold Launch.stackTraces
    rw [hflags]
    decide +kernel

  obtain ⟨c0, f0, hK0⟩ := u_known (C := RX0) (T := TX0) (N := 5) (n := 5) hts inX0 (hts (.instantiable RX0 5) (by decide +kernel))
  obtain ⟨c1, f1, hK1⟩ := u_known (C := RX1) (T := TX1) (N := 8) (n := 8) hts inX1 (hts (.instantiable RX1 8) (by decide +kernel))
  obtain ⟨c2, f2, hK2⟩ := u_known (C := RX3) (T := TX3) (N := 4) (n := 4) hts inX3 (hts (.instantiable RX3 4) (by decide +kernel))
  obtain ⟨c3, f3, hK3⟩ := u_known (C := RX5) (T := TX5) (N := 5) (n := 5) hts inX5 (hts (.instantiable RX5 5) (by decide +kernel))
  obtain ⟨c4, f4, hK4⟩ := u_known (C := RX6) (T := TX6) (N := 9) (n := 9) hts inX6 (hts (.instantiable RX6 9) (by decide +kernel))
  obtain ⟨c5, f5, hK5⟩ := u_known (C := RX7) (T := TX7) (N := 6) (n := 6) hts inX7 (hts (.instantiable RX7 6) (by decide +kernel))
  obtain ⟨cI, hI1, hI2⟩ := st_arr (ty := .int) (fun _ h => by cases h) (hts (.arrayClass .int) (by decide +kernel))
  obtain ⟨cJ, hJ1, hJ2⟩ := st_arr (ty := .long) (fun _ h => by cases h) (hts (.arrayClass .long) (by decide +kernel))
  obtain ⟨cZ, hZ1, hZ2⟩ := st_arr (ty := .boolean) (fun _ h => by cases h) (hts (.arrayClass .boolean) (by decide +kernel))
  obtain ⟨dC, dI, hKc⟩ : ∃ (dC : Nat → ClassId) (dI : Nat → Nat → Nat), ∀ (k : Nat) (q : vw_C), vwCl[k]? = some q → u_Kn s q.1 q.2.1 q.2.2 (dC k) (dI k) := by
    refine ⟨fun k => [c0, c1, c2, c3, c4, c5].getD k c0, fun k => [f0, f1, f2, f3, f4, f5].getD k f0, ?_⟩
    intro k q hq
    match k, hq with
    | 0, hq => cases hq; exact hK0
    | 1, hq => cases hq; exact hK1
    | 2, hq => cases hq; exact hK2
    | 3, hq => cases hq; exact hK3
    | 4, hq => cases hq; exact hK4
    | 5, hq => cases hq; exact hK5
    | k + 6, hq => simp [vwCl] at hq
  have hK : va_K (dC, dI) vwCl (zTy cI cJ cZ) s := by
    refine ⟨hKc, fun k q h => ?_⟩
    match k, h with
    | 0, h => cases h; exact ⟨hI1, hI2⟩
    | 1, h => cases h; exact ⟨hJ1, hJ2⟩
    | 2, h => cases h; exact ⟨hZ1, hZ2⟩
    | k + 3, h => simp at h
  have C : zC p s m #[.ref b] meth c cL_law 22 ret RL wsL_law (dC, dI) (zTy cI cJ cZ) (zAq s) s.heap := ⟨hx, hb, hml, hown, fun w hw => hts w (wsL_law_in w hw), hK, fun _ h => h, hlocks, hr⟩
  have XW : zNw zNest7 s := fun q hq => va_Nw.of rfl (hts _ (st_nw q hq))
  rw [lg_entry_eq]
  exact lw_body2 l hl (dC, dI) cI cJ cZ C (st_zE hts hgv) (st_zN hgv) XW hX hbl hF s.heap [] _ (fun k q h => by simp at h) ⟨fun i j p q h => by simp at h, fun k q h => by simp at h⟩ va_S.rf (lv_entry [.ref b] (Nat.le_of_ble_eq_true rfl))
set_option maxHeartbeats 4000000 in
theorem lw_walk2 (l : Launch) (hflags : l.flags = flags0) (b : Addr) (xs : List Int32) {u : Nat} (hF : f_L_law_52 (fun j => xs.getD j 0) xs.length zP0 zP0 zP0 zT2 zP0 zP0 zL0 zP0 zL0 0 = some u) : MetFree l x (headSpec (Jvm.Cond.code x code maxLocals ret :: tables_1) room_R) (lw_P b xs) (fun _ _ _ _ _ => True) (fun _ s o t => o = .returned (some (.int 1)) ∧ s.heap.size + u ≤ t.heap.size) := by
  refine MetFree.of_bodyS (code := code) (maxLocals := maxLocals) (ret := ret) (by decide) ?_ ?_
  · intro args s m h hn
    obtain ⟨meth, c, h1, h2, h3, h4, h5, h6, -, -⟩ := Cond.code_spec hn (atoms_spec (ws := Jvm.Cond.code x code maxLocals ret :: tables_1) h _ List.mem_cons_self)
    exact ⟨meth, c, h1, h2, h3, h4, h5, h6⟩
  · intro p e s m args below meth c s₁ B hml0 hP _
    obtain ⟨rfl, hx, hbd, hgv⟩ := hP
    obtain ⟨scr, harrAt, hlist, hof, hsmall⟩ := hx
    obtain ⟨hcb, hkn, -, -⟩ := State.arrayAt?_spec harrAt
    have hown : s.vm.findClass R_law = some m.cls := findClass_of_methodNamed B.named
    have hts0 : ∀ c ∈ (Jvm.Cond.code x code maxLocals ret :: tables_1), c.before #[Value.ref b] s = true := atoms_spec (ws := Jvm.Cond.code x code maxLocals ret :: tables_1) B.pre
    have hts : ∀ w ∈ lw_tbl, w.before #[Value.ref b] s = true := k2_hts_sels lw_privs (fun w hw => hts0 w (List.mem_cons_of_mem _ hw)) lw_privs_ok
    have hml : c.maxLocals = 22 := B.maxLocals_eq (hts0 _ List.mem_cons_self)
    have X₀ : Stand p l e room_R s m #[Value.ref b] below meth c s₁ [] 0 0 := Stand.of_body B
    have hh0 : s₁.heap = s.heap := by rw [B.state]; rfl
    have hsz : scr.slots.size = xs.length := by rw [← Array.length_toList, hlist, List.length_map]
    have hval : ∀ j : Nat, j < xs.length → scr.slots[j]? = some (.int (xs.getD j 0)) := fun j hj => by
      rw [← Array.getElem?_toList, hlist]
      simp [hj]
    have hbl : b < s.heap.size := (Array.getElem?_eq_some_iff.mp hcb).1
    have hX : va_X b xs.length (fun j => xs.getD j 0) s s.heap := ⟨scr, hcb, hof, hkn, hsz, hval⟩
    have K : W p l e room_R s m #[Value.ref b] below meth c s₁.heap [] 0 0 (lw_Z2 below s u) (entryFrame m ([Value.ref b] : List Value).toArray 22) := by
      rw [hh0]
      exact whole_start2 l hflags hF ⟨B.exec, B.bytes, B.returns, hml, hown, hts, hX, hbl, B.notSynchronized, hgv⟩
    obtain ⟨t, a1, o, b1, b2, b3⟩ := K s₁ rfl X₀
    exact ⟨t, o, a1, b1, b2, b3⟩
/-- from every start that has more room, and whose script makes the law answer 1 with u new cells at least: it comes to its end with that many -/
theorem p34_run {l : Launch} {p : Program} {e : Env} {s : State} {m : MethodId} {args : Array Value} {below : List Frame} (hflags : l.flags = flags0) (hs : AtStart classFile x code maxLocals ret World_1 tables_1 room_1 Calls_1 rest_1 Pre_1 l p e s m args below) (hroom : s.hasRoom e.platform room_R = true)
    {b : Addr} {xs : List Int32} (hargs : args = #[.ref b]) (hx : s.IntsAt b xs) (hlen : xs.length ≤ 260) {u : Nat} (hF : f_L_law_52 (fun j => xs.getD j 0) xs.length zP0 zP0 zP0 zT2 zP0 zP0 zL0 zP0 zL0 0 = some u) :
    ∃ (n : Nat) (o : Outcome), (∀ k, k < n → Within (stepsAlone p.tables e k s) below) ∧ (stepsAlone p.tables e n s).status = Status.running ∧ Ended (stepsAlone p.tables e n s) below o ∧ s.heap.size + u ≤ (stepsAlone p.tables e n s).heap.size := by
  obtain ⟨hL, hW, hadm, hleast, hcas, hclk, hfr, hfit, hheap, happ, hcalls, hrest, hpre⟩ := hs
  have hl1 := ((Spec.applies_iff_loose hfr).mp happ).1
  obtain ⟨g1, g2, g3, g4, g5, g6, -, g8⟩ := (Spec.appliesLoose_iff hfr).mp hl1
  have hl2 : (headSpec (Jvm.Cond.code x code maxLocals ret :: tables_1) room_R).appliesLoose x e.platform s = true := (Spec.appliesLoose_iff hfr).mpr ⟨g1, g2, g3, g4, g5, g6, hroom, g8⟩
  obtain ⟨k, o, h1, h2, h3, h4, h5⟩ := lw_walk2 l hflags b xs hF p e hadm hcas hclk s m args below hfr hl2 ⟨hargs, hx, hlen, hpre⟩ trivial
  exact ⟨k, o, h1, h2, h3, h5⟩
/-- THE CLAIMS FALL at such a start, where u is beyond the 140 cells of their frame -/
theorem p34_falls {l : Launch} {p : Program} {e : Env} {s : State} {m : MethodId} {args : Array Value} {below : List Frame} (hflags : l.flags = flags0) (hs : AtStart classFile x code maxLocals ret World_1 tables_1 room_1 Calls_1 rest_1 Pre_1 l p e s m args below) (hroom : s.hasRoom e.platform room_R = true)
    {b : Addr} {xs : List Int32} (hargs : args = #[.ref b]) (hx : s.IntsAt b xs) (hlen : xs.length ≤ 260) {u : Nat} (hu : 140 < u) (hF : f_L_law_52 (fun j => xs.getD j 0) xs.length zP0 zP0 zP0 zT2 zP0 zP0 zL0 zP0 zL0 0 = some u) : (RefutedClaimed_1_1 ∧ RefutedClaimed_1_2) ∧ ¬ Claimed_1_1 ∧ ¬ Claimed_1_2 := by
  obtain ⟨n, o, h1, h2, h3, h4⟩ := p34_run hflags hs hroom hargs hx hlen hF
  have hno : ∀ (o : Outcome) (L : List Loc), ¬ Framed s o (stepsAlone p.tables e n s) L 140 9890 := by
    intro o L hq
    have h6 : (stepsAlone p.tables e n s).heap.size ≤ s.heap.size + 140 := hq.2.2.2.2.1
    omega
  have key : ∀ n2 : Nat, (∀ k, k < n2 → Within (stepsAlone p.tables e k s) below) → ∀ o2 : Outcome, Ended (stepsAlone p.tables e n2 s) below o2 → n = n2 := by
    intro n2 k1 o2 k3
    rcases Nat.lt_trichotomy n n2 with g | g | g
    · exact absurd (k1 n g) h3.not_within
    · exact g
    · exact absurd (h1 n2 g) k3.not_within
  refine ⟨⟨⟨l, p, e, s, m, args, below, hflags, hs, n, o, h1, h2, h3, fun hq => hno _ _ hq.2⟩, ⟨l, p, e, s, m, args, below, hflags, hs, n, o, h1, h2, h3, fun hq => hno _ _ hq.2⟩⟩, fun hA => ?_, fun hA => ?_⟩
  · obtain ⟨hL, hW, hadm, hleast, hcas, hclk, hfr, hfit, hheap, happ, hcalls, hrest, hpre⟩ := hs
    obtain ⟨n2, o2, k1, k2, k3, hP⟩ := hA l hflags hL hW p e hadm hcas hclk s m args below hfr hfit hheap happ ⟨hcalls, hrest, hpre⟩
    have hn := key n2 k1 o2 k3
    subst hn
    exact hno _ _ hP.2
  · obtain ⟨hL, hW, hadm, hleast, hcas, hclk, hfr, hfit, hheap, happ, hcalls, hrest, hpre⟩ := hs
    obtain ⟨n2, o2, k1, k2, k3, hP⟩ := hA l hflags hL hW p e hadm hcas hclk s m args below hfr hfit hheap happ ⟨hcalls, hrest, hpre⟩
    have hn := key n2 k1 o2 k3
    subst hn
    exact hno _ _ hP.2

