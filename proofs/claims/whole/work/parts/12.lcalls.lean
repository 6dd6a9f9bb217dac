abbrev zwO (cJ : ClassId) (ao : Nat) (O : SL) : va_W := [(ao, .inl (cJ, 1, .inr (.inl O)))]
theorem zr_O (cI cJ cZ : ClassId) (ab : Nat) (a5 a3 a6 a1 a0 : Nat → Nat) (B P M T K U : SS) (L : SL) (ao : Nat) (O : SL) (j : Nat) (x : Int64) : (zwX7 cI cJ cZ ab a5 a3 a6 a1 a0 B P M T K U L ++ zwO cJ ao O).set 30 (ao, .inl (cJ, 1, .inr (.inl (vp_updL O j x)))) = zwX7 cI cJ cZ ab a5 a3 a6 a1 a0 B P M T K U L ++ zwO cJ ao (vp_updL O j x) := rfl
/-- which exceptions a row of a table doesn't take -/
def zN (U : State) : Prop := va_Nc "java/lang/IllegalArgumentException" "java/lang/IndexOutOfBoundsException" U ∧ va_Nc "java/lang/IllegalStateException" "java/lang/IndexOutOfBoundsException" U ∧ va_Nc "java/lang/IllegalStateException" "java/lang/IllegalArgumentException" U
theorem zN.moved {u U : State} (hvm : u.vm.Alike U.vm) (h : zN u) : zN U := ⟨va_Nc.moved hvm h.1, va_Nc.moved hvm h.2.1, va_Nc.moved hvm h.2.2⟩
/-- a callee's throw is looked up in a table -/
def zca {α β : Type} (a : Option (String ⊕ α)) (h : String → Option β) (k : α → Option β) : Option β := match a with
  | none => none
  | some (.inl E) => h E
  | some (.inr u) => k u
theorem zca_some {α β : Type} {a : Option (String ⊕ α)} {h : String → Option β} {k : α → Option β} {r : β} (q : zca a h k = some r) : (∃ E, a = some (.inl E) ∧ h E = some r) ∨ ∃ u, a = some (.inr u) ∧ k u = some r := by
  cases a with
  | none => cases q
  | some a => cases a with
    | inl E => exact Or.inl ⟨E, rfl, q⟩
    | inr u => exact Or.inr ⟨u, rfl, q⟩
/-- a method with a table of its own, that always returns; it may leave one new cell -/
def zL (l : Launch) (y : MethodName) (ws : List Cond) (fr lo : Nat) (D : va_G) (tys : List (ClassId × FieldType)) (As : List Value) (wc : va_W) (ret : Option Value) (wc' : va_W) : Prop :=
  ∀ sz : Nat, vx_Met l y ws { frames := fr, cells := 1, slots := 6, locals := lo } (va_Pc As (fun U => U.heap.size = sz ∧ va_P D vwCl wc U.heap ∧ va_K D vwCl tys U ∧ va_D (fun _ => True) wc ∧ zE (va_A wc sz) U U.heap ∧ zN U)) (zQ D tys ret wc' (va_A wc sz)) (fun _ _ _ => False) 1 6 (va_A wc sz)
theorem z_lblind {D : va_G} {tys : List (ClassId × FieldType)} {As : List Value} {wc : va_W} {sz : Nat} : FrameBlind (va_Pc As (fun U => U.heap.size = sz ∧ va_P D vwCl wc U.heap ∧ va_K D vwCl tys U ∧ va_D (fun _ => True) wc ∧ zE (va_A wc sz) U U.heap ∧ zN U)) := fun a U g mk q => by
  obtain ⟨q0, q1, qP, qK, qD, qE, qN⟩ := q
  exact ⟨q0, q1, qP, va_K.moved (u := U) (U := U.calling g mk a) (Vm.Alike.refl U.vm) qK, qD, zE_to (U := U.calling g mk a) (H1 := (U.calling g mk a).heap) qE (State.WarmedH.refl U) (fun _ _ _ => rfl) (fun _ h => h), zN.moved (u := U) (U := U.calling g mk a) (Vm.Alike.refl U.vm) qN⟩
section ZB
variable {l : Launch}
theorem z_lbody {y : MethodName} {ws ws' : List Cond} {fr lo : Nat} {cc : ByteArray} {maxL : Nat} {rty : Option FieldType} {hh : List (Nat × Nat × Nat × Nat)} {D : va_G} {tys : List (ClassId × FieldType)} {As : List Value} {wc wc' : va_W} {ret : Option Value} {lv : List (Nat × Value)} {own : String}
    (hy : plainName y.cls = true) (ho : y.cls = own) (hw : ws = Cond.codeWith y cc maxL rty hh :: ws') (hlen : (lg_sl As).length ≤ maxL) (hlv : lv_args 0 As = lv)
    (body : ∀ (p : Program) (e : Env) (s : State) (m : MethodId) (args : Array Value) (below : List Frame) (meth : Method) (c : Code) (A : Nat → Prop), zC p s m args meth c cc maxL rty own ws D tys A s.heap → zE A s s.heap → zN s → c.exceptionTable.toList = tableOf hh →
      zW p l e { frames := fr, cells := 1, slots := 6, locals := lo } s m args below meth c maxL D A s.heap 0 0 (vx_MQ below (zQ D tys ret wc' A) (fun _ _ _ => False) args s 1 6 A) wc lv 0 []) : zL l y ws fr lo D tys As wc ret wc' := by
  intro sz
  refine vx_ofWH (cc := cc) (maxL := maxL) (ret := rty) (hh := hh) hy hw ?_
  intro p e s m args below meth c s₁ B hml hv
  obtain ⟨rfl, hsz, hP, hK, hD0, hE, hN⟩ := hv
  have hts := atoms_spec (ws := ws) B.pre
  have hown := findClass_of_methodNamed B.named
  rw [ho] at hown
  subst hsz
  have hD := hD0.self (sz := s.heap.size)
  have htab := vx_table (x := y) B (hts (Cond.codeWith y cc maxL rty hh) (by rw [hw]; exact List.mem_cons_self))
  rw [lg_entry_eq]
  subst hlv
  exact body p e s m _ below meth c (va_A wc s.heap.size) ⟨B.exec, B.bytes, hml, hown, hts, hK, fun q h => Or.inr h, B.notSynchronized, B.returns⟩ hE hN htab s.heap [] _ hP hD va_S.rf (lv_entry As hlen)
end ZB
section ZZ
variable {p : Program} {l : Launch} {e : Env} {R : Room} {s : State} {m : MethodId} {args : Array Value} {below : List Frame} {meth : Method} {c : Code} {cells slots : Nat} {Q : State → Prop}
variable {cc : ByteArray} {nL : Nat} {rt : Option FieldType} {own : String} {Ts : List Cond} {D : va_G} {tys : List (ClassId × FieldType)} {A : Nat → Prop} {H0 : Heap}
variable {ws ws' : va_W} {lv lv' : List (Nat × Value)} {pc : Nat} {st st0 : List Value} {XC : String → State → State → Prop}
theorem z_widen {k n : Nat} (h1 : cells ≤ k) (h2 : slots ≤ n) (kk : zW p l e R s m args below meth c nL D A H0 k n Q ws lv pc st) : zW p l e R s m args below meth c nL D A H0 cells slots Q ws lv pc st :=
  fun H locs ls g1 g2 g3 g4 => W.widen h1 h2 (kk H locs ls g1 g2 g3 g4)
theorem z_lret1 {v : Int32} {ty : FieldType} {k n : Nat} (C : zC p s m args meth c cc nL rt own Ts D tys A s.heap) (hd : decode cc pc = .ok (.ireturn, 1)) (hr : rt = some ty) (hn : narrow ty (.int v) = .int v) :
    zW p l e R s m args below meth c nL D A s.heap k n (vx_MQ below (zQ D tys (some (.int v)) ws A) XC args s k n A) ws lv pc [.int v] := fun _ _ _ h1 h2 h3 _ =>
  vx_ret (W.zret C.1 C.2.1 (C.2.2.2.2.2.2.2.2.trans hr) hn (fun t ht hW => ⟨⟨rfl, by rw [ht]; exact h1, va_K.moved hW.alike C.2.2.2.2.2.1, h2⟩, h3.F ht⟩) h3.2.2 hd C.2.2.2.2.2.2.2.1)
/-- a callee has thrown: the row x9 of this method's table takes it -/
theorem z_lcatchV {y : MethodName} {wsy wsy' : List Cond} {fr lo : Nat} {bytes : ByteArray} {maxL index n : Nat} {rty : Option FieldType} {Cn E name : String} {b ci N : Nat} {As : List Value} {wc : va_W} {T : u_T} {fs : List Value} {pre9 suf9 : List ExceptionTableEntry} {x9 : ExceptionTableEntry}
    (C : zC p s m args meth c cc nL rt own Ts D tys A s.heap) (X : zE A s s.heap) (hM : zO l y wsy fr lo D tys (.ref b :: As) wc (.inl E)) (hG : GoodIn Ts (wsV own index Cn y wsy)) (hw : wsy = Cond.code y bytes maxL rty :: wsy')
    (hd' : y.cls = Cn ∧ y.cls ≠ "java/lang/invoke/MethodHandle" ∧ y.cls ≠ "java/lang/invoke/VarHandle" ∧ (parseMethodDescriptor y.desc).map (fun d => d.parameters.length) = some n)
    (hR : fr + 1 ≤ R.frames ∧ 8 + (maxL + 11) + lo ≤ R.locals) (hf : 1 ≤ R.cells ∧ 6 ≤ R.slots) (q0 : Nat) (he : ws[q0]? = some (b, .inr (ci, fs))) (hc : vwCl[ci]? = some (Cn, T, N))
    (pre post : va_W) (hs : ws = pre ++ (wc ++ post)) (hst : st0 = As.reverse ++ .ref b :: st) (hn : As.length = n) (hroom : (st.map fun v => v.category).sum ≤ 8) (hdg : decode cc pc = .ok (.invokevirtual index, 3))
    (htab : c.exceptionTable.toList = pre9 ++ x9 :: suf9) (hpass : ∀ z ∈ pre9, covers z pc = false ∨ (z.catchType ≠ 0 ∧ ∃ nm : String, (Cond.classLink own z.catchType nm).before args s = true ∧ va_Nc E nm s)) (hx : covers x9 pc = true) (h0 : x9.catchType ≠ 0)
    (hlink : Cond.classLink own x9.catchType name ∈ Ts) (hcast : va_Nw (.castable E name) s)
    (k : ∀ q : Nat, zW p l e R s m args below meth c nL D A s.heap 1 6 Q ws lv x9.handlerPc [.ref q]) : zW p l e R s m args below meth c nL D A s.heap 0 0 Q ws lv pc st0 := by
  intro H locs ls h1 h2 h3 h4 T9 hT X9
  have hFc := z_xfree C hs h2 h3
  rcases vx_runV (As := As) (rest := st) (g := F0 m pc ls st0) (cells := 0) (slots := 0) (locs := locs) ⟨C.1, C.2.1, C.2.2.1, C.2.2.2.1, C.2.2.2.2.1⟩ (hM H.size) (cwV n C.2.2.2.2.1 hG hw rfl rfl hd' hR) ⟨z_xblind, va_recv C.2.2.2.2.2.1 h1 hc he, z_xpre (b := b) (As := .ref b :: As) C X hs h1 h2 h3⟩ rfl hn h4.1 hst (lv_room (pc := pc) (ls := ls) (m := m) hroom) hdg ⟨by rw [Nat.zero_add]; exact hf.1, by rw [Nat.zero_add]; exact hf.2⟩ T9 hT X9 with ⟨v, st₀, t, T', L, h9, X', hL, e1, e2, ⟨hf, -⟩, stp⟩ | ⟨q, st₀, t, T', L, E9, ce, h9, X', hL, e1, e2, ⟨⟨hE, hP', hK', hD'⟩, hz, hk⟩, hce, hcv, hcl, stp⟩
  · exact hf.elim
  · rw [h9] at hz hk
    subst hE
    have hj := z_join (hs ▸ h1) (hs ▸ h2) hk hFc hP' hD'
    rw [← hs] at hj
    have hS1 : va_S A s.heap T'.heap (locs ++ L) := ⟨by rw [e1]; exact Nat.le_trans h3.1 hz, fun q g1 g2 => by rw [e1, hk q (Nat.lt_of_lt_of_le g1 h3.1) (fun z => g2 (hFc q z))]; exact h3.2.1 q g1 g2, fun q hq => by
      rcases List.mem_append.mp hq with h | h
      · exact h3.2.2 q h
      · exact hFc _ (hL q h)⟩
    obtain ⟨t2, a1, b1⟩ := vx_catch (name := name) (pc := pc) (ls := ls) (rest := st) (Q := Q) C.2.2.2.1 pre9 x9 suf9 htab hpass hx h0 (C.2.2.2.2.1 _ hlink) (va_Nw.use rfl hcast) (H := T'.heap) (by rw [e1]; exact hce) hcv hcl (k q T'.heap (locs ++ L) ls (by rw [e1]; exact hj.1) hj.2 hS1 h4) T' rfl X'
    exact ⟨t2, stp.trans a1, b1⟩
end ZZ
