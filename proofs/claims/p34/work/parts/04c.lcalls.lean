/-- which exceptions a row of a table doesn't take -/
def zN (U : State) : Prop := va_Nc "java/lang/IndexOutOfBoundsException" "java/lang/IllegalArgumentException" U ∧ va_Nc "java/lang/IndexOutOfBoundsException" "java/lang/IllegalStateException" U ∧ va_Nc "java/lang/IllegalStateException" "java/lang/IllegalArgumentException" U
theorem zN.moved {u U : State} (hvm : u.vm.Alike U.vm) (h : zN u) : zN U := ⟨va_Nc.moved hvm h.1, va_Nc.moved hvm h.2.1, va_Nc.moved hvm h.2.2⟩
/-- a heap with n cells more behind it: a bound from below -/
def zpad (H : Heap) (n : Nat) : Heap := H ++ Array.replicate n { cls := 0, slots := #[], vm := .none }
theorem zpad_size (H : Heap) (n : Nat) : (zpad H n).size = H.size + n := by
  unfold zpad
  rw [Array.size_append, Array.size_replicate]
theorem zpad_S {A : Nat → Prop} {H H1 : Heap} {locs : List Loc} {n : Nat} (hA : ∀ q, H.size ≤ q → A q) (h : va_S A H H1 locs) (hn : H.size + n ≤ H1.size) : va_S A (zpad H n) H1 locs := by
  refine ⟨by rw [zpad_size]; exact hn, fun q h1 h2 => ?_, h.2.2⟩
  have h3 : q < H.size := Nat.not_le.mp fun g => h2 (hA q g)
  rw [h.2.1 q h3 h2]
  exact (Array.getElem?_append_left h3).symm
theorem zpad_U {A : Nat → Prop} {H H1 : Heap} {locs : List Loc} {n : Nat} (h : va_S A (zpad H n) H1 locs) : va_S A H H1 locs ∧ H.size + n ≤ H1.size := by
  have h0 := h.1
  rw [zpad_size] at h0
  refine ⟨⟨by omega, fun q h1 h2 => ?_, h.2.2⟩, h0⟩
  rw [h.2.1 q (by rw [zpad_size]; omega) h2]
  exact Array.getElem?_append_left h1
/-- as zQ, and the heap has grown by g at least -/
def zQg (D : va_G) (tys : List (ClassId × FieldType)) (ret : Option Value) (wc' : va_W) (g : Nat) (A : Nat → Prop) : Array Value → State → Outcome → State → Prop := fun a st oc t => zQ D tys ret wc' A a st oc t ∧ st.heap.size + g ≤ t.heap.size
/-- a method that always returns; it may leave new cells, mc at the most, g at least -/
def zL (l : Launch) (y : MethodName) (ws : List Cond) (fr lo mc ms : Nat) (D : va_G) (tys : List (ClassId × FieldType)) (As : List Value) (wc : va_W) (ret : Option Value) (wc' : va_W) (g : Nat) : Prop :=
  ∀ sz : Nat, vx_Met l y ws { frames := fr, cells := mc, slots := ms, locals := lo } (va_Pc As (fun U => U.heap.size = sz ∧ va_P D vwCl wc U.heap ∧ va_K D vwCl tys U ∧ va_D (fun _ => True) wc ∧ zE (va_A wc sz) U U.heap ∧ zN U)) (zQg D tys ret wc' g (va_A wc sz)) (fun _ _ _ => False) mc ms (va_A wc sz)
theorem z_lblind {D : va_G} {tys : List (ClassId × FieldType)} {As : List Value} {wc : va_W} {sz : Nat} : FrameBlind (va_Pc As (fun U => U.heap.size = sz ∧ va_P D vwCl wc U.heap ∧ va_K D vwCl tys U ∧ va_D (fun _ => True) wc ∧ zE (va_A wc sz) U U.heap ∧ zN U)) := fun a U g mk q => by
  obtain ⟨q0, q1, qP, qK, qD, qE, qN⟩ := q
  exact ⟨q0, q1, qP, va_K.moved (u := U) (U := U.calling g mk a) (Vm.Alike.refl U.vm) qK, qD, zE_to (U := U.calling g mk a) (H1 := (U.calling g mk a).heap) qE (State.WarmedH.refl U) (fun _ _ _ => rfl) (fun _ h => h), zN.moved (u := U) (U := U.calling g mk a) (Vm.Alike.refl U.vm) qN⟩
section ZB
variable {l : Launch}
theorem z_lbodyH {y : MethodName} {ws ws' : List Cond} {fr lo mc ms g : Nat} {cc : ByteArray} {maxL : Nat} {rty : Option FieldType} {hh : List (Nat × Nat × Nat × Nat)} {D : va_G} {tys : List (ClassId × FieldType)} {As : List Value} {wc wc' : va_W} {ret : Option Value} {lv : List (Nat × Value)} {own : String}
    (hy : plainName y.cls = true) (ho : y.cls = own) (hw : ws = Cond.codeWith y cc maxL rty hh :: ws') (hlen : (lg_sl As).length ≤ maxL) (hlv : lv_args 0 As = lv)
    (body : ∀ (p : Program) (e : Env) (s : State) (m : MethodId) (args : Array Value) (below : List Frame) (meth : Method) (c : Code) (A : Nat → Prop), zC p s m args meth c cc maxL rty own ws D tys A s.heap → zE A s s.heap → zN s → c.exceptionTable.toList = tableOf hh →
      zW p l e { frames := fr, cells := mc, slots := ms, locals := lo } s m args below meth c maxL D A s.heap 0 0 (vx_MQ below (zQg D tys ret wc' g A) (fun _ _ _ => False) args s mc ms A) wc lv 0 []) : zL l y ws fr lo mc ms D tys As wc ret wc' g := by
  intro sz
  refine vx_ofWH (cc := cc) (maxL := maxL) (ret := rty) (hh := hh) hy hw ?_
  intro p e s m args below meth c s₁ B hml hv
  obtain ⟨rfl, hsz, hP, hK, hD0, hE, hN⟩ := hv
  have hts := atoms_spec (ws := ws) B.pre
  have hown := findClass_of_methodNamed B.named
  rw [ho] at hown
  subst hsz
  have hD := hD0.self (sz := s.heap.size)
  have htab := vx_table (x := y) B (hts (Cond.codeWith y cc maxL rty hh) (by rw [hw]; exact List.mem_cons_self))
  rw [lg_entry_eq]
  subst hlv
  exact body p e s m _ below meth c (va_A wc s.heap.size) ⟨B.exec, B.bytes, hml, hown, hts, hK, fun q h => Or.inr h, B.notSynchronized, B.returns⟩ hE hN htab s.heap [] _ hP hD va_S.rf (lv_entry As hlen)
end ZB
section ZB
variable {l : Launch}
theorem z_lbody {y : MethodName} {ws ws' : List Cond} {fr lo mc ms g : Nat} {cc : ByteArray} {maxL : Nat} {rty : Option FieldType} {D : va_G} {tys : List (ClassId × FieldType)} {As : List Value} {wc wc' : va_W} {ret : Option Value} {lv : List (Nat × Value)} {own : String}
    (hy : plainName y.cls = true) (ho : y.cls = own) (hw : ws = Cond.code y cc maxL rty :: ws') (hlen : (lg_sl As).length ≤ maxL) (hlv : lv_args 0 As = lv)
    (body : ∀ (p : Program) (e : Env) (s : State) (m : MethodId) (args : Array Value) (below : List Frame) (meth : Method) (c : Code) (A : Nat → Prop), zC p s m args meth c cc maxL rty own ws D tys A s.heap → zE A s s.heap → zN s →
      zW p l e { frames := fr, cells := mc, slots := ms, locals := lo } s m args below meth c maxL D A s.heap 0 0 (vx_MQ below (zQg D tys ret wc' g A) (fun _ _ _ => False) args s mc ms A) wc lv 0 []) : zL l y ws fr lo mc ms D tys As wc ret wc' g := by
  intro sz
  refine vx_ofW (cc := cc) (maxL := maxL) (ret := rty) hy hw ?_
  intro p e s m args below meth c s₁ B hml ht hv
  obtain ⟨rfl, hsz, hP, hK, hD0, hE, hN⟩ := hv
  have hts := atoms_spec (ws := ws) B.pre
  have hown := findClass_of_methodNamed B.named
  rw [ho] at hown
  subst hsz
  have hD := hD0.self (sz := s.heap.size)
  rw [lg_entry_eq]
  subst hlv
  exact body p e s m _ below meth c (va_A wc s.heap.size) ⟨B.exec, B.bytes, hml, hown, hts, hK, fun q h => Or.inr h, B.notSynchronized, B.returns⟩ hE hN s.heap [] _ hP hD va_S.rf (lv_entry As hlen)
end ZB
section ZZ
variable {p : Program} {l : Launch} {e : Env} {R : Room} {s : State} {m : MethodId} {args : Array Value} {below : List Frame} {meth : Method} {c : Code} {cells slots : Nat} {Q : State → Prop}
variable {cc : ByteArray} {nL : Nat} {rt : Option FieldType} {own : String} {Ts : List Cond} {D : va_G} {tys : List (ClassId × FieldType)} {A : Nat → Prop} {H0 : Heap}
variable {ws ws' : va_W} {lv lv' : List (Nat × Value)} {pc : Nat} {st st0 : List Value} {XC : String → State → State → Prop}
theorem z_widen {k n : Nat} (h1 : cells ≤ k) (h2 : slots ≤ n) (kk : zW p l e R s m args below meth c nL D A H0 k n Q ws lv pc st) : zW p l e R s m args below meth c nL D A H0 cells slots Q ws lv pc st :=
  fun H locs ls g1 g2 g3 g4 => W.widen h1 h2 (kk H locs ls g1 g2 g3 g4)
theorem zC_pad (n : Nat) (C : zC p s m args meth c cc nL rt own Ts D tys A s.heap) : zC p s m args meth c cc nL rt own Ts D tys A (zpad s.heap n) :=
  ⟨C.1, C.2.1, C.2.2.1, C.2.2.2.1, C.2.2.2.2.1, C.2.2.2.2.2.1, fun q h => C.2.2.2.2.2.2.1 q (by rw [zpad_size] at h; omega), C.2.2.2.2.2.2.2.1, C.2.2.2.2.2.2.2.2⟩
theorem zhb_0 {g : Nat} (hg : g ≤ 0) : ∀ (H : Heap) (locs : List Loc), va_S A s.heap H locs → va_S A s.heap H locs ∧ s.heap.size + g ≤ H.size := fun _ _ h => ⟨h, Nat.le_trans (Nat.add_le_add_left hg _) h.1⟩
theorem zhb_pad {n g : Nat} (C : zC p s m args meth c cc nL rt own Ts D tys A s.heap) (hg : g ≤ n) : ∀ (H : Heap) (locs : List Loc), va_S A (zpad s.heap n) H locs → va_S A s.heap H locs ∧ s.heap.size + g ≤ H.size := fun _ _ h => ⟨(zpad_U h).1, Nat.le_trans (Nat.add_le_add_left hg _) (zpad_U h).2⟩
theorem zhb_p {n : Nat} (C : zC p s m args meth c cc nL rt own Ts D tys A s.heap) : ∀ (H : Heap) (locs : List Loc), va_S A (zpad s.heap n) H locs → va_S A s.heap H locs := fun _ _ h => (zpad_U h).1
theorem z_pad0 (C : zC p s m args meth c cc nL rt own Ts D tys A s.heap) (k : zW p l e R s m args below meth c nL D A (zpad s.heap 0) cells slots Q ws lv pc st) : zW p l e R s m args below meth c nL D A s.heap cells slots Q ws lv pc st :=
  fun H locs ls h1 h2 h3 h4 => k H locs ls h1 h2 (zpad_S C.2.2.2.2.2.2.1 h3 h3.1) h4
theorem zg3 {a b c : Int32} (h1 : a = 3) (h2 : b = 3) (h3 : c = 3) : (if (1 : Int32) = 0 then 0 else 3) ≤ ((0 + (if a = 0 then 0 else 1)) + (if b = 0 then 0 else 1)) + (if c = 0 then 0 else 1) := by
  subst h1 h2 h3; decide
theorem zg0 (n : Nat) : (if (0 : Int32) = 0 then 0 else 3) ≤ n := Nat.zero_le n
theorem z_lretg {v : Int32} {ty : FieldType} {k n g : Nat} (C : zC p s m args meth c cc nL rt own Ts D tys A H0) (hb : ∀ (H : Heap) (locs : List Loc), va_S A H0 H locs → va_S A s.heap H locs ∧ s.heap.size + g ≤ H.size) (hd : decode cc pc = .ok (.ireturn, 1)) (hr : rt = some ty) (hn : narrow ty (.int v) = .int v) :
    zW p l e R s m args below meth c nL D A H0 k n (vx_MQ below (zQg D tys (some (.int v)) ws g A) XC args s k n A) ws lv pc [.int v] := fun _ _ _ h1 h2 h3 _ =>
  vx_ret (W.zret C.1 C.2.1 (C.2.2.2.2.2.2.2.2.trans hr) hn (fun t ht hW => ⟨⟨⟨rfl, by rw [ht]; exact h1, va_K.moved hW.alike C.2.2.2.2.2.1, h2⟩, (hb _ _ h3).1.F ht⟩, by rw [ht]; exact (hb _ _ h3).2⟩) h3.2.2 hd C.2.2.2.2.2.2.2.1)
/-- a method that may throw is called, and returns -/
theorem z_gcallV_R {y : MethodName} {wsy wsy' : List Cond} {fr lo : Nat} {bytes : ByteArray} {maxL index n : Nat} {rty : Option FieldType} {Cn : String} {b ci N : Nat} {As : List Value} {ret : Option Value} {wc wc' : va_W} {T : u_T} {fs : List Value}
    (C0 : zC p s m args meth c cc nL rt own Ts D tys A H0) (C : zC p s m args meth c cc nL rt own Ts D tys A s.heap) (X : zE A s s.heap) (hb : ∀ (H : Heap) (locs : List Loc), va_S A H0 H locs → va_S A s.heap H locs) (hM : zO l y wsy fr lo D tys (.ref b :: As) wc (.inr (ret, wc'))) (hG : GoodIn Ts (wsV own index Cn y wsy)) (hw : wsy = Cond.code y bytes maxL rty :: wsy')
    (hd' : y.cls = Cn ∧ y.cls ≠ "java/lang/invoke/MethodHandle" ∧ y.cls ≠ "java/lang/invoke/VarHandle" ∧ (parseMethodDescriptor y.desc).map (fun d => d.parameters.length) = some n)
    (hR : fr + 1 ≤ R.frames ∧ 8 + (maxL + 11) + lo ≤ R.locals) (hf : cells ≤ R.cells ∧ slots ≤ R.slots) (q0 : Nat) (he : ws[q0]? = some (b, .inr (ci, fs))) (hc : vwCl[ci]? = some (Cn, T, N))
    (pre post : va_W) (hs : ws = pre ++ (wc ++ post)) (hs' : pre ++ (wc' ++ post) = ws') (hst : st0 = As.reverse ++ .ref b :: st) (hn : As.length = n) (hroom : (st.map fun v => v.category).sum ≤ 8) (hdg : decode cc pc = .ok (.invokevirtual index, 3))
    (k : zW p l e R s m args below meth c nL D A H0 cells slots Q ws' lv (pc + 3) (ret.toList ++ st)) : zW p l e R s m args below meth c nL D A H0 cells slots Q ws lv pc st0 :=
  z_xrunR (a := (Value.ref b :: As).toArray) C0 hs hs' (fun H locs ls h1 h2 h3 h4 =>
    vx_runV (As := As) (rest := st) ⟨C.1, C.2.1, C.2.2.1, C.2.2.2.1, C.2.2.2.2.1⟩ (hM H.size) (cwV n C.2.2.2.2.1 hG hw rfl rfl hd' hR) ⟨z_xblind, va_recv C.2.2.2.2.2.1 h1 hc he, z_xpre (b := b) (As := .ref b :: As) C X hs h1 h2 (hb _ _ h3)⟩ rfl hn h4.1 hst (lv_room hroom) hdg hf) k
/-- a callee has thrown: the row x9 of this method's table takes it -/
theorem z_gcatchV {y : MethodName} {wsy wsy' : List Cond} {fr lo : Nat} {bytes : ByteArray} {maxL index n : Nat} {rty : Option FieldType} {Cn E name : String} {b ci N : Nat} {As : List Value} {wc : va_W} {T : u_T} {fs : List Value} {pre9 suf9 : List ExceptionTableEntry} {x9 : ExceptionTableEntry}
    (C : zC p s m args meth c cc nL rt own Ts D tys A s.heap) (X : zE A s s.heap) (hM : zO l y wsy fr lo D tys (.ref b :: As) wc (.inl E)) (hG : GoodIn Ts (wsV own index Cn y wsy)) (hw : wsy = Cond.code y bytes maxL rty :: wsy')
    (hd' : y.cls = Cn ∧ y.cls ≠ "java/lang/invoke/MethodHandle" ∧ y.cls ≠ "java/lang/invoke/VarHandle" ∧ (parseMethodDescriptor y.desc).map (fun d => d.parameters.length) = some n)
    (hR : fr + 1 ≤ R.frames ∧ 8 + (maxL + 11) + lo ≤ R.locals) (hf : 1 ≤ R.cells ∧ 6 ≤ R.slots) (q0 : Nat) (he : ws[q0]? = some (b, .inr (ci, fs))) (hc : vwCl[ci]? = some (Cn, T, N))
    (pre post : va_W) (hs : ws = pre ++ (wc ++ post)) (hst : st0 = As.reverse ++ .ref b :: st) (hn : As.length = n) (hroom : (st.map fun v => v.category).sum ≤ 8) (hdg : decode cc pc = .ok (.invokevirtual index, 3))
    (htab : c.exceptionTable.toList = pre9 ++ x9 :: suf9) (hpass : ∀ z ∈ pre9, covers z pc = false ∨ (z.catchType ≠ 0 ∧ ∃ nm : String, (Cond.classLink own z.catchType nm).before args s = true ∧ va_Nc E nm s)) (hx : covers x9 pc = true) (h0 : x9.catchType ≠ 0)
    (hlink : Cond.classLink own x9.catchType name ∈ Ts) (hcast : va_Nw (.castable E name) s)
    (k : ∀ q : Nat, zW p l e R s m args below meth c nL D A (zpad s.heap 1) 1 6 Q ws lv x9.handlerPc [.ref q]) : zW p l e R s m args below meth c nL D A s.heap 0 0 Q ws lv pc st0 := by
  intro H locs ls h1 h2 h3 h4 T9 hT X9
  have hFc := z_xfree C hs h2 h3
  rcases vx_runV (As := As) (rest := st) (g := F0 m pc ls st0) (cells := 0) (slots := 0) (locs := locs) ⟨C.1, C.2.1, C.2.2.1, C.2.2.2.1, C.2.2.2.2.1⟩ (hM H.size) (cwV n C.2.2.2.2.1 hG hw rfl rfl hd' hR) ⟨z_xblind, va_recv C.2.2.2.2.2.1 h1 hc he, z_xpre (b := b) (As := .ref b :: As) C X hs h1 h2 h3⟩ rfl hn h4.1 hst (lv_room (pc := pc) (ls := ls) (m := m) hroom) hdg ⟨by rw [Nat.zero_add]; exact hf.1, by rw [Nat.zero_add]; exact hf.2⟩ T9 hT X9 with ⟨v, st₀, t, T', L, h9, X', hL, e1, e2, ⟨hf, -⟩, stp⟩ | ⟨q, st₀, t, T', L, E9, ce, h9, X', hL, e1, e2, ⟨⟨hE, hP', hK', hD', hlt⟩, hz, hk⟩, hce, hcv, hcl, stp⟩
  · exact hf.elim
  · rw [h9] at hz hk hlt
    subst hE
    have hj := z_join (hs ▸ h1) (hs ▸ h2) hk hFc hP' hD'
    rw [← hs] at hj
    have hS1 : va_S A s.heap T'.heap (locs ++ L) := ⟨by rw [e1]; exact Nat.le_trans h3.1 hz, fun q g1 g2 => by rw [e1, hk q (Nat.lt_of_lt_of_le g1 h3.1) (fun z => g2 (hFc q z))]; exact h3.2.1 q g1 g2, fun q hq => by
      rcases List.mem_append.mp hq with h | h
      · exact h3.2.2 q h
      · exact hFc _ (hL q h)⟩
    obtain ⟨t2, a1, b1⟩ := vx_catch (name := name) (pc := pc) (ls := ls) (rest := st) (Q := Q) C.2.2.2.1 pre9 x9 suf9 htab hpass hx h0 (C.2.2.2.2.1 _ hlink) (va_Nw.use rfl hcast) (H := T'.heap) (by rw [e1]; exact hce) hcv hcl (k q T'.heap (locs ++ L) ls (by rw [e1]; exact hj.1) hj.2 (zpad_S C.2.2.2.2.2.2.1 hS1 (by rw [e1]; exact Nat.lt_of_le_of_lt h3.1 hlt)) h4) T' rfl X'
    exact ⟨t2, stp.trans a1, b1⟩
end ZZ
section ZZ
variable {p : Program} {l : Launch} {e : Env} {R : Room} {s : State} {m : MethodId} {args : Array Value} {below : List Frame} {meth : Method} {c : Code} {cells slots : Nat} {Q : State → Prop}
variable {cc : ByteArray} {nL : Nat} {rt : Option FieldType} {own : String} {Ts : List Cond} {D : va_G} {tys : List (ClassId × FieldType)} {A : Nat → Prop} {H0 : Heap}
variable {ws ws' : va_W} {lv lv' : List (Nat × Value)} {pc : Nat} {st st0 : List Value}
theorem z_lcmp {x y : Int64} (C : zC p s m args meth c cc nL rt own Ts D tys A H0) (hd : decode cc pc = .ok (.lcmp, 1)) (k : zW p l e R s m args below meth c nL D A H0 cells slots Q ws lv (pc + 1) (.int (lg_cmp x y) :: st)) : zW p l e R s m args below meth c nL D A H0 cells slots Q ws lv pc (.long y :: .long x :: st) :=
  fun H locs ls h1 h2 h3 h4 => W.lcmp C.1 C.2.1 hd (k H locs ls h1 h2 h3 h4)
theorem z_sld {b L : Nat} {xs : Nat → Int32} {i : Int32} (C : zC p s m args meth c cc nL rt own Ts D tys A s.heap) (hX : va_X b L xs s s.heap) (hbl : b < s.heap.size) (hbA : ¬ A b) (hin : vp_in i L) (hd : decode cc pc = .ok (.iaload, 1)) (k : zW p l e R s m args below meth c nL D A s.heap cells slots Q ws lv (pc + 1) (.int (xs i.toNatClampNeg) :: st)) : zW p l e R s m args below meth c nL D A s.heap cells slots Q ws lv pc (.int i :: .ref b :: st) :=
  fun H locs ls h1 h2 h3 h4 => va_sld C.1 C.2.1 hX hbl hbA h3 hin hd (k H locs ls h1 h2 h3 h4)
theorem z_slen {b L : Nat} {xs : Nat → Int32} (C : zC p s m args meth c cc nL rt own Ts D tys A s.heap) (hX : va_X b L xs s s.heap) (hbl : b < s.heap.size) (hbA : ¬ A b) (hd : decode cc pc = .ok (.arraylength, 1)) (k : zW p l e R s m args below meth c nL D A s.heap cells slots Q ws lv (pc + 1) (.int (Int32.ofNat L) :: st)) : zW p l e R s m args below meth c nL D A s.heap cells slots Q ws lv pc (.ref b :: st) :=
  fun H locs ls h1 h2 h3 h4 => va_slen C.1 C.2.1 hX hbl hbA h3 hd (k H locs ls h1 h2 h3 h4)
/-- a call of one of the law's own methods: they always return, and may leave one new cell -/
theorem z_gcallH {y : MethodName} {wsy wsy' : List Cond} {fr lo mc ms g N : Nat} {bytes : ByteArray} {maxL index n : Nat} {rty : Option FieldType} {hh : List (Nat × Nat × Nat × Nat)} {As : List Value} {ret : Option Value} {wc wc' : va_W}
    (C : zC p s m args meth c cc nL rt own Ts D tys A s.heap) (XE : zE A s s.heap) (XN : zN s) (hM : zL l y wsy fr lo mc ms D tys As wc ret wc' g) (hG : GoodIn Ts (va_wsS own index y wsy)) (hw : wsy = Cond.codeWith y bytes maxL rty hh :: wsy')
    (hd' : y.cls ≠ "java/lang/invoke/MethodHandle" ∧ y.cls ≠ "java/lang/invoke/VarHandle" ∧ (parseMethodDescriptor y.desc).map (fun d => d.parameters.length) = some n)
    (hR : fr + 1 ≤ R.frames ∧ 8 + (maxL + 11) + lo ≤ R.locals) (hf : cells + mc ≤ R.cells ∧ slots + ms ≤ R.slots) (pre post : va_W) (hs : ws = pre ++ (wc ++ post)) (hs' : pre ++ (wc' ++ post) = ws') (hst : st0 = As.reverse ++ st) (hn : As.length = n) (hroom : (st.map fun v => v.category).sum ≤ 8) (hdg : decode cc pc = .ok (.invokestatic index, 3))
    (k : zW p l e R s m args below meth c nL D A (zpad s.heap (N + g)) (cells + mc) (slots + ms) Q ws' lv (pc + 3) (ret.toList ++ st)) : zW p l e R s m args below meth c nL D A (zpad s.heap N) cells slots Q ws lv pc st0 := by
  intro H locs ls h1 h2 h30 h4 T hT X
  obtain ⟨h3, hN9⟩ := zpad_U h30
  have hFc := z_xfree C hs h2 h3
  have hp := z_part (hs ▸ h1) (hs ▸ h2)
  rcases vx_runSX (As := As) (rest := st) (g := F0 m pc ls st0) (locs := locs) (cells := cells) (slots := slots) ⟨C.1, C.2.1, C.2.2.1, C.2.2.2.1, C.2.2.2.2.1⟩ (hM H.size) (vx_cwSW n C.2.2.2.2.1 hG hw rfl rfl hd' hR)
    ⟨z_lblind, fun U hU hW => ⟨rfl, by rw [hU], by rw [hU]; exact hp.1, va_K.moved hW.alike C.2.2.2.2.2.1, hp.2, zE_to XE hW (fun q g1 g2 => by rw [hU]; exact h3.2.1 q g1 g2) hFc, zN.moved hW.alike XN⟩⟩ rfl hn h4.1 hst (lv_room (pc := pc) (ls := ls) (m := m) hroom) hdg hf T hT X with ⟨v, st₀, t, T', L, h9, X', hL, e1, e2, ⟨⟨⟨hv, hP', hK', hD'⟩, hz, hk⟩, hg⟩, stp⟩ | ⟨q, st₀, t, T', L, E, ce, h9, X', hL, e1, e2, hf9, hrest⟩
  · cases hv
    rw [h9] at hz hk hg
    subst hs
    obtain ⟨g1, g2⟩ := z_join h1 h2 hk hFc hP' hD'
    rw [hs'] at g1 g2
    obtain ⟨t2, a1, b1⟩ := k T'.heap (locs ++ L) ls (by rw [e1]; exact g1) g2
      (zpad_S C.2.2.2.2.2.2.1 ⟨Nat.le_trans h3.1 (by rw [e1]; exact hz), fun q w1 w2 => by rw [e1, hk q (Nat.lt_of_lt_of_le w1 h3.1) (fun z => w2 (hFc q z))]; exact h3.2.1 q w1 w2, fun q hq => by
        rcases List.mem_append.mp hq with h | h
        · exact h3.2.2 q h
        · exact hFc _ (hL q h)⟩ (by rw [e1]; omega)) h4 T' rfl X'
    exact ⟨t2, stp t2 a1, b1⟩
  · exact hf9.elim
/-- a call of one of the law's own methods: they always return, and may leave one new cell -/
theorem z_gcallS {y : MethodName} {wsy wsy' : List Cond} {fr lo mc ms g N : Nat} {bytes : ByteArray} {maxL index n : Nat} {rty : Option FieldType} {As : List Value} {ret : Option Value} {wc wc' : va_W}
    (C : zC p s m args meth c cc nL rt own Ts D tys A s.heap) (XE : zE A s s.heap) (XN : zN s) (hM : zL l y wsy fr lo mc ms D tys As wc ret wc' g) (hG : GoodIn Ts (va_wsS own index y wsy)) (hw : wsy = Cond.code y bytes maxL rty :: wsy')
    (hd' : y.cls ≠ "java/lang/invoke/MethodHandle" ∧ y.cls ≠ "java/lang/invoke/VarHandle" ∧ (parseMethodDescriptor y.desc).map (fun d => d.parameters.length) = some n)
    (hR : fr + 1 ≤ R.frames ∧ 8 + (maxL + 11) + lo ≤ R.locals) (hf : cells + mc ≤ R.cells ∧ slots + ms ≤ R.slots) (pre post : va_W) (hs : ws = pre ++ (wc ++ post)) (hs' : pre ++ (wc' ++ post) = ws') (hst : st0 = As.reverse ++ st) (hn : As.length = n) (hroom : (st.map fun v => v.category).sum ≤ 8) (hdg : decode cc pc = .ok (.invokestatic index, 3))
    (k : zW p l e R s m args below meth c nL D A (zpad s.heap (N + g)) (cells + mc) (slots + ms) Q ws' lv (pc + 3) (ret.toList ++ st)) : zW p l e R s m args below meth c nL D A (zpad s.heap N) cells slots Q ws lv pc st0 := by
  intro H locs ls h1 h2 h30 h4 T hT X
  obtain ⟨h3, hN9⟩ := zpad_U h30
  have hFc := z_xfree C hs h2 h3
  have hp := z_part (hs ▸ h1) (hs ▸ h2)
  rcases vx_runS (As := As) (rest := st) (g := F0 m pc ls st0) (locs := locs) (cells := cells) (slots := slots) ⟨C.1, C.2.1, C.2.2.1, C.2.2.2.1, C.2.2.2.2.1⟩ (hM H.size) (va_cwS n C.2.2.2.2.1 hG hw rfl rfl hd' hR)
    ⟨z_lblind, fun U hU hW => ⟨rfl, by rw [hU], by rw [hU]; exact hp.1, va_K.moved hW.alike C.2.2.2.2.2.1, hp.2, zE_to XE hW (fun q g1 g2 => by rw [hU]; exact h3.2.1 q g1 g2) hFc, zN.moved hW.alike XN⟩⟩ rfl hn h4.1 hst (lv_room (pc := pc) (ls := ls) (m := m) hroom) hdg hf T hT X with ⟨v, st₀, t, T', L, h9, X', hL, e1, e2, ⟨⟨⟨hv, hP', hK', hD'⟩, hz, hk⟩, hg⟩, stp⟩ | ⟨q, st₀, t, T', L, E, ce, h9, X', hL, e1, e2, hf9, hrest⟩
  · cases hv
    rw [h9] at hz hk hg
    subst hs
    obtain ⟨g1, g2⟩ := z_join h1 h2 hk hFc hP' hD'
    rw [hs'] at g1 g2
    obtain ⟨t2, a1, b1⟩ := k T'.heap (locs ++ L) ls (by rw [e1]; exact g1) g2
      (zpad_S C.2.2.2.2.2.2.1 ⟨Nat.le_trans h3.1 (by rw [e1]; exact hz), fun q w1 w2 => by rw [e1, hk q (Nat.lt_of_lt_of_le w1 h3.1) (fun z => w2 (hFc q z))]; exact h3.2.1 q w1 w2, fun q hq => by
        rcases List.mem_append.mp hq with h | h
        · exact h3.2.2 q h
        · exact hFc _ (hL q h)⟩ (by rw [e1]; omega)) h4 T' rfl X'
    exact ⟨t2, stp t2 a1, b1⟩
  · exact hf9.elim
/-- a call of a static method that has a world -/
theorem z_callSW {y : MethodName} {wsy wsy' : List Cond} {rm : Room} {bytes : ByteArray} {maxL index n : Nat} {rty : Option FieldType} {As : List Value} {ret : Option Value} {wc wc' : va_W}
    (C : zC p s m args meth c cc nL rt own Ts D tys A H0) (hM : zM l y wsy rm D tys As wc ret wc') (hG : GoodIn Ts (va_wsS own index y wsy)) (hw : wsy = Cond.code y bytes maxL rty :: wsy') (hrc : rm.cells = 0) (hrs : rm.slots = 0)
    (hd' : y.cls ≠ "java/lang/invoke/MethodHandle" ∧ y.cls ≠ "java/lang/invoke/VarHandle" ∧ (parseMethodDescriptor y.desc).map (fun d => d.parameters.length) = some n)
    (hR : rm.frames + 1 ≤ R.frames ∧ 8 + (maxL + 11) + rm.locals ≤ R.locals) (hf : cells ≤ R.cells ∧ slots ≤ R.slots) (pre post : va_W) (hs : ws = pre ++ (wc ++ post)) (hs' : pre ++ (wc' ++ post) = ws')
    (hst : st0 = As.reverse ++ st) (hn : As.length = n) (hroom : (st.map fun v => v.category).sum ≤ 8) (hdg : decode cc pc = .ok (.invokestatic index, 3))
    (k : zW p l e R s m args below meth c nL D A H0 cells slots Q ws' lv (pc + 3) (ret.toList ++ st)) : zW p l e R s m args below meth c nL D A H0 cells slots Q ws lv pc st0 := by
  refine z_run (a := As.toArray) C hs hs' (fun H locs ls h1 h2 h3 h4 => ?_) k
  have hp := z_part (hs ▸ h1) (hs ▸ h2)
  exact va_runS (As := As) (rest := st) ⟨C.1, C.2.1, C.2.2.1, C.2.2.2.1, C.2.2.2.2.1⟩ (hM H.size) (va_cwS n C.2.2.2.2.1 hG hw hrc hrs hd' hR) ⟨z_blind, fun U hU hW => ⟨rfl, by rw [hU], by rw [hU]; exact hp.1, va_K.moved hW.alike C.2.2.2.2.2.1, hp.2⟩⟩ rfl hn h4.1 hst (lv_room hroom) hdg hf
end ZZ
/-- a static method that reads the script -/
def zX1 (l : Launch) (y : MethodName) (ws : List Cond) (rm : Room) (D : va_G) (tys : List (ClassId × FieldType)) (b L : Nat) (xs : Nat → Int32) (As : List Value) (ret : Option Value) : Prop :=
  ∀ sz : Nat, Met l y ws rm (va_Pc As (fun U => U.heap.size = sz ∧ va_X b L xs U U.heap ∧ b < sz ∧ va_K D vwCl tys U)) (zQ D tys ret [] (va_A [] sz)) 0 0 (va_A [] sz)
theorem z_sblind {tys : List (ClassId × FieldType)} {D : va_G} {As : List Value} {b L sz : Nat} {xs : Nat → Int32} : FrameBlind (va_Pc As (fun U => U.heap.size = sz ∧ va_X b L xs U U.heap ∧ b < sz ∧ va_K D vwCl tys U)) := fun a U g mk q => by
  obtain ⟨q0, q1, qX, qb, qK⟩ := q
  exact ⟨q0, q1, va_X.moved (u := U) (U := U.calling g mk a) (Vm.Alike.refl U.vm) qX, qb, va_K.moved (u := U) (U := U.calling g mk a) (Vm.Alike.refl U.vm) qK⟩
section ZB
variable {l : Launch}
theorem z_sbody {y : MethodName} {ws ws' : List Cond} {rm : Room} {cc : ByteArray} {maxL : Nat} {rty : Option FieldType} {D : va_G} {tys : List (ClassId × FieldType)} {b L : Nat} {xs : Nat → Int32} {As : List Value} {ret : Option Value} {lv : List (Nat × Value)} {own : String}
    (hy : plainName y.cls = true) (ho : y.cls = own) (hw : ws = Cond.code y cc maxL rty :: ws') (hlen : (lg_sl As).length ≤ maxL) (hlv : lv_args 0 As = lv)
    (body : ∀ (p : Program) (e : Env) (s : State) (m : MethodId) (args : Array Value) (below : List Frame) (meth : Method) (c : Code) (A : Nat → Prop), zC p s m args meth c cc maxL rty own ws D tys A s.heap → va_X b L xs s s.heap → b < s.heap.size → ¬ A b →
      zW p l e rm s m args below meth c maxL D A s.heap 0 0 (MQ below (zQ D tys ret [] A) args s 0 0 A) [] lv 0 []) : zX1 l y ws rm D tys b L xs As ret := by
  intro sz
  refine Met.ofW (cc := cc) (maxL := maxL) (ret := rty) hy hw ?_
  intro p e s m args below meth c s₁ B hml hv
  obtain ⟨rfl, hsz, hX, hbl, hK⟩ := hv
  have hts := atoms_spec (ws := ws) B.pre
  have hown := findClass_of_methodNamed B.named
  rw [ho] at hown
  subst hsz
  rw [lg_entry_eq]
  subst hlv
  exact body p e s m _ below meth c (va_A [] s.heap.size) ⟨B.exec, B.bytes, hml, hown, hts, hK, fun q h => Or.inr h, B.notSynchronized, B.returns⟩ hX hbl (fun h => by
    rcases h with ⟨k, e9, h⟩ | h
    · simp at h
    · omega) s.heap [] _ (fun k q h => by simp at h) ⟨fun i j x y h => by simp at h, fun k q h => by simp at h⟩ va_S.rf (lv_entry As hlen)
end ZB
section ZZ
variable {p : Program} {l : Launch} {e : Env} {R : Room} {s : State} {m : MethodId} {args : Array Value} {below : List Frame} {meth : Method} {c : Code} {cells slots : Nat} {Q : State → Prop}
variable {cc : ByteArray} {nL : Nat} {rt : Option FieldType} {own : String} {Ts : List Cond} {D : va_G} {tys : List (ClassId × FieldType)} {A : Nat → Prop} {H0 : Heap}
variable {ws ws' : va_W} {lv lv' : List (Nat × Value)} {pc : Nat} {st st0 : List Value}
theorem z_ccall {y : MethodName} {wsy wsy' : List Cond} {rm : Room} {bytes : ByteArray} {maxL index n : Nat} {rty : Option FieldType} {As : List Value} {ret : Option Value} {b L : Nat} {xs : Nat → Int32}
    (C : zC p s m args meth c cc nL rt own Ts D tys A H0) (hX : va_X b L xs s s.heap) (hbl : b < s.heap.size) (hbA : ¬ A b) (hb : ∀ (H : Heap) (locs : List Loc), va_S A H0 H locs → va_S A s.heap H locs) (hM : zX1 l y wsy rm D tys b L xs As ret) (hG : GoodIn Ts (va_wsS own index y wsy)) (hw : wsy = Cond.code y bytes maxL rty :: wsy') (hrc : rm.cells = 0) (hrs : rm.slots = 0)
    (hd' : y.cls ≠ "java/lang/invoke/MethodHandle" ∧ y.cls ≠ "java/lang/invoke/VarHandle" ∧ (parseMethodDescriptor y.desc).map (fun d => d.parameters.length) = some n)
    (hR : rm.frames + 1 ≤ R.frames ∧ 8 + (maxL + 11) + rm.locals ≤ R.locals) (hf : cells ≤ R.cells ∧ slots ≤ R.slots)
    (hst : st0 = As.reverse ++ st) (hn : As.length = n) (hroom : (st.map fun v => v.category).sum ≤ 8) (hdg : decode cc pc = .ok (.invokestatic index, 3))
    (k : zW p l e R s m args below meth c nL D A H0 cells slots Q ws lv (pc + 3) (ret.toList ++ st)) : zW p l e R s m args below meth c nL D A H0 cells slots Q ws lv pc st0 := by
  refine z_run (a := As.toArray) (wc := []) (wc' := []) (pre := ws) (post := []) C (by simp) (by simp) (fun H locs ls h1 h2 h3 h4 => ?_) k
  have hS := hb _ _ h3
  exact va_runS (As := As) (rest := st) ⟨C.1, C.2.1, C.2.2.1, C.2.2.2.1, C.2.2.2.2.1⟩ (hM H.size) (va_cwS n C.2.2.2.2.1 hG hw hrc hrs hd' hR) ⟨z_sblind, fun U hU hW => ⟨rfl, by rw [hU], by rw [hU]; exact va_X.moved hW.alike (hX.kept (hS.2.1 b hbl hbA)), Nat.lt_of_lt_of_le hbl hS.1, va_K.moved hW.alike C.2.2.2.2.2.1⟩⟩ rfl hn h4.1 hst (lv_room hroom) hdg hf
end ZZ
theorem zAs5 {a b : va_W} : a ++ b = a ++ (b ++ []) := by rw [List.append_nil]
theorem zAs6 {a b : va_W} : a ++ (b ++ []) = a ++ b := by rw [List.append_nil]
theorem zAs7 {a : va_W} : a = [] ++ (a ++ []) := by rw [List.append_nil, List.nil_append]
theorem zAs8 {a : va_W} : [] ++ (a ++ []) = a := by rw [List.append_nil, List.nil_append]
/-! the script's place k -/
theorem kL_cell_7 : Cond.constant RL 7 (1000308201) ∈ wsL_cell := by decide +kernel
theorem kL_cell_8 : Cond.constant RL 8 (751363375) ∈ wsL_cell := by decide +kernel
theorem c_L_cell (l : Launch) (D : va_G) (cI cJ cZ : ClassId) (b sL : Nat) (xs : Nat → Int32) (k : Int32) (u : Int32) (hF : f_L_cell xs sL k = some u) : zX1 l yL_cell wsL_cell { frames := 0, cells := 0, slots := 0, locals := 0 } D (zTy cI cJ cZ) b sL xs [.ref b, .int k] (some (.int u)) := by
  refine z_sbody (cc := cL_cell) (maxL := 2) (rty := some .int) (own := RL) (lv := [(0, .ref b), (1, .int k)]) (by decide +kernel) rfl rfl (Nat.le_of_ble_eq_true rfl) rfl (fun p e s m args below meth c A C hX hbl hbA => ?_)
  unfold f_L_cell at hF
  refine z_iload_n C dL_cell_0 rfl 1 rfl ?_
  refine z_aload_n C dL_cell_1 rfl 0 rfl ?_
  refine z_slen C hX hbl hbA dL_cell_2 ?_
  refine z_icmp_ge (tgt := 12) C dL_cell_3 (by decide) (fun g => ?_) (fun g => ?_)
  · have hF := zelse hF (Int32.not_lt.mpr g)
    refine z_ldc (v := 1000308201) C kL_cell_7 dL_cell_12 ?_
    refine z_iload_n C dL_cell_14 rfl 1 rfl ?_
    refine z_iconst (v := 1) C dL_cell_15 (by decide) ?_
    refine z_iadd C dL_cell_16 ?_
    refine z_imul C dL_cell_17 ?_
    refine z_ldc (v := 751363375) C kL_cell_8 dL_cell_18 ?_
    refine z_iadd C dL_cell_20 ?_
    have hu := Option.some.inj hF
    subst hu
    exact z_iret C dL_cell_21 rfl rfl
  · have hF := zif hF (Int32.not_le.mp g)
    obtain ⟨g2, hF⟩ := zix_some hF
    refine z_aload_n C dL_cell_6 rfl 0 rfl ?_
    refine z_iload_n C dL_cell_7 rfl 1 rfl ?_
    refine z_sld C hX hbl hbA g2 dL_cell_8 ?_
    refine z_goto (tgt := 21) C dL_cell_9 (by decide) ?_
    have hu := Option.some.inj hF
    subst hu
    exact z_iret C dL_cell_21 rfl rfl
