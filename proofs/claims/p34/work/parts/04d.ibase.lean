/-- links to private constructors of nest mates -/
def zNx (q : String × Nat × MethodName × String) : Cond := .methodLinkNest q.1 q.2.1 q.2.2.1 q.2.2.2
def zNw (xs : List (String × Nat × MethodName × String)) (U : State) : Prop := ∀ q ∈ xs, va_Nw (zNx q) U
theorem zNw.warm {xs : List (String × Nat × MethodName × String)} {s U : State} (hW : s.WarmedH U.vm) (h : zNw xs s) : zNw xs U := fun q hq => va_Nw.warmM hW (h q hq)
theorem zNw.sub {xs ys : List (String × Nat × MethodName × String)} {U : State} (h : zNw xs U) (hs : ∀ q ∈ ys, q ∈ xs) : zNw ys U := fun q hq => h q (hs q hq)
def zIQ {α : Type} (D : va_G) (tys : List (ClassId × FieldType)) (ok : α → Prop) (Wf : α → va_W) (A : Nat → Prop) : Array Value → State → Outcome → State → Prop := fun _ st oc t => (oc = .returned none ∧ ∃ ad : α, ok ad ∧ va_P D vwCl (Wf ad) t.heap ∧ va_K D vwCl tys t ∧ va_D A (Wf ad)) ∧ va_F A st t
/-- a constructor: of the cell h0 it makes a world -/
def zI {α : Type} (l : Launch) (y : MethodName) (ws : List Cond) (fr lo mc ms : Nat) (D : va_G) (tys : List (ClassId × FieldType)) (h0 : Nat) (e0 : va_E) (xs : List (String × Nat × MethodName × String)) (ok : α → Prop) (Wf : α → va_W) : Prop :=
  ∀ sz : Nat, Met l y ws { frames := fr, cells := mc, slots := ms, locals := lo } (va_Pc [.ref h0] (fun U => U.heap.size = sz ∧ va_P D vwCl [(h0, e0)] U.heap ∧ va_K D vwCl tys U ∧ va_D (fun _ => True) [(h0, e0)] ∧ zNw xs U)) (zIQ D tys ok Wf (va_A [(h0, e0)] sz)) mc ms (va_A [(h0, e0)] sz)
theorem z_iblind {D : va_G} {tys : List (ClassId × FieldType)} {As : List Value} {wc : va_W} {sz : Nat} {xs : List (String × Nat × MethodName × String)} : FrameBlind (va_Pc As (fun U => U.heap.size = sz ∧ va_P D vwCl wc U.heap ∧ va_K D vwCl tys U ∧ va_D (fun _ => True) wc ∧ zNw xs U)) := fun a U g mk q => by
  obtain ⟨q0, q1, qP, qK, qD, qN⟩ := q
  exact ⟨q0, q1, qP, va_K.moved (u := U) (U := U.calling g mk a) (Vm.Alike.refl U.vm) qK, qD, zNw.warm (U := U.calling g mk a) (State.WarmedH.refl U) qN⟩
section ZB
variable {l : Launch}
theorem z_ibody {α : Type} {y : MethodName} {ws ws' : List Cond} {fr lo mc ms : Nat} {cc : ByteArray} {D : va_G} {tys : List (ClassId × FieldType)} {h0 : Nat} {e0 : va_E} {xs : List (String × Nat × MethodName × String)} {ok : α → Prop} {Wf : α → va_W} {own : String}
    (hy : plainName y.cls = true) (ho : y.cls = own) (hyn : y.name = "<init>") (hw : ws = Cond.code y cc 1 none :: ws')
    (body : ∀ (p : Program) (e : Env) (s : State) (m : MethodId) (args : Array Value) (below : List Frame) (meth : Method) (c : Code) (A : Nat → Prop), zC p s m args meth c cc 1 none own ws D tys A s.heap → meth.name = "<init>" → zNw xs s →
      zW p l e { frames := fr, cells := mc, slots := ms, locals := lo } s m args below meth c 1 D A s.heap 0 0 (MQ below (zIQ D tys ok Wf A) args s mc ms A) [(h0, e0)] [(0, .ref h0)] 0 []) : zI l y ws fr lo mc ms D tys h0 e0 xs ok Wf := by
  intro sz
  refine Met.ofW (cc := cc) (maxL := 1) (ret := none) hy hw ?_
  intro p e s m args below meth c s₁ B hml hv
  obtain ⟨rfl, hsz, hP, hK, hD0, hN⟩ := hv
  have hts := atoms_spec (ws := ws) B.pre
  have hown := findClass_of_methodNamed B.named
  rw [ho] at hown
  have hin : meth.name = "<init>" := ((name_of_methodNamed B.named B.method).1).trans hyn
  subst hsz
  have hD := hD0.self (sz := s.heap.size)
  rw [lg_entry_eq]
  exact body p e s m _ below meth c (va_A [(h0, e0)] s.heap.size) ⟨B.exec, B.bytes, hml, hown, hts, hK, fun q h => Or.inr h, B.notSynchronized, B.returns⟩ hin hN s.heap [] _ hP hD va_S.rf (lv_entry [.ref h0] (Nat.le_of_ble_eq_true rfl))
end ZB
section ZZ
variable {p : Program} {l : Launch} {e : Env} {R : Room} {s : State} {m : MethodId} {args : Array Value} {below : List Frame} {meth : Method} {c : Code} {cells slots : Nat} {Q : State → Prop}
variable {cc : ByteArray} {nL : Nat} {rt : Option FieldType} {own : String} {Ts : List Cond} {D : va_G} {tys : List (ClassId × FieldType)} {A : Nat → Prop} {H0 : Heap}
variable {ws ws' : va_W} {lv lv' : List (Nat × Value)} {pc : Nat} {st st0 : List Value}
theorem z_ws (h : ws = ws') (k : zW p l e R s m args below meth c nL D A H0 cells slots Q ws' lv pc st) : zW p l e R s m args below meth c nL D A H0 cells slots Q ws lv pc st := h ▸ k
theorem z_iwiden {k n : Nat} (h1 : cells ≤ k) (h2 : slots ≤ n) (kk : zW p l e R s m args below meth c nL D A H0 k n Q ws lv pc st) : zW p l e R s m args below meth c nL D A H0 cells slots Q ws lv pc st :=
  fun H locs ls g1 g2 g3 g4 => W.widen h1 h2 (kk H locs ls g1 g2 g3 g4)
theorem z_objInit {idx a : Nat} (C : zC p s m args meth c cc nL rt own Ts D tys A H0) (w1 : Cond.methodLink own idx Lib.objectInit ∈ Ts) (w2 : Cond.instanceMethod Lib.objectInit ∈ Ts) (w3 : Cond.code Lib.objectInit ⟨#[0xb1]⟩ 1 none ∈ Ts) (hfr : 1 ≤ R.frames) (hlo : (st.map fun v => v.category).sum + 12 ≤ R.locals)
    (hd : decode cc pc = .ok (.invokespecial idx, 3)) (k : zW p l e R s m args below meth c nL D A H0 cells slots Q ws lv (pc + 3) st) : zW p l e R s m args below meth c nL D A H0 cells slots Q ws lv pc (.ref a :: st) := fun H locs ls h1 h2 h3 h4 =>
  W.objInit C.1 C.2.1 C.2.2.2.1 (C.2.2.2.2.1 _ w1) (C.2.2.2.2.1 _ w2) (C.2.2.2.2.1 _ w3) rfl (h4.1.trans C.2.2.1.symm) rfl hd hfr (by show 2 * 0 + _ + 12 ≤ _; omega) (W.eq (g2 := F0 m (pc + 3) ls st) rfl (k H locs ls h1 h2 h3 h4))
theorem z_newarr {atype : ArrayType} {ty : FieldType} {n : Int32} {N : Nat} {a0 : vp_A} {cA : ClassId} (C : zC p s m args meth c cc nL rt own Ts D tys A H0) (harr : Cond.arrayClass (newarray.typeOf atype) ∈ Ts) (hty : newarray.typeOf atype = ty) (t0 : Nat) (ht : tys[t0]? = some (cA, ty)) (hra : ∀ (U : State) (x : ClassId), va_RA U x ty → U.vm.findClass ("[" ++ ty.toString) = some x)
    (ha : ∀ x : ClassId, vp_cell x a0 = arrV x N (fun _ => defaultValue ty)) (hn : ¬ n < 0) (hN : n.toNatClampNeg = N) (hbytes : N * componentBytes ty ≤ 536870912) (hcells : cells + 1 ≤ R.cells) (hslots : slots + N ≤ R.slots) (hd : decode cc pc = .ok (.newarray atype, 2))
    (k : ∀ q : Nat, zW p l e R s m args below meth c nL D A H0 (cells + 1) (slots + N) Q (ws ++ [(q, .inl (cA, a0))]) lv (pc + 2) (.ref q :: st)) : zW p l e R s m args below meth c nL D A H0 cells slots Q ws lv pc (.int n :: st) := by
  intro H locs ls h1 h2 h3 h4
  refine va_newa (atype := atype) C.1 C.2.1 (C.2.2.2.2.1 _ harr) hty C.2.2.2.2.2.1 h1 h2 h3 C.2.2.2.2.2.2.1 ha hn hN hbytes hcells hslots hd (fun q cA9 H1 hK hP hD hS => ?_)
  have e9 : cA9 = cA := by
    have g1 := hra s cA9 (hK.2 tys.length (cA9, ty) (by simp)).2
    have g2 := hra s cA (C.2.2.2.2.2.1.2 t0 (cA, ty) ht).2
    exact Option.some.inj (g1.symm.trans g2)
  subst e9
  exact k q H1 locs ls hP hD hS h4
theorem z_new {Cn : String} {T : u_T} {N ci index : Nat} {fs : List Value} (C : zC p s m args meth c cc nL rt own Ts D tys A H0) (hin : ∀ w ∈ u_ws Cn T N, w ∈ Ts) (ty0 : Nat → FieldType) (hty : ∀ k, k < N → parseFieldDescriptor (T k).2.2.1 = some (ty0 k)) (hcl : Cond.classLink own index Cn ∈ Ts) (hinst : Cond.instantiable Cn N ∈ Ts) (hini : Cond.initialized Cn ∈ Ts)
    (hc : vwCl[ci]? = some (Cn, T, N)) (hfs : ∀ j, j < N → defaultValue (ty0 j) = vp_V fs j) (hcells : cells + 1 ≤ R.cells) (hslots : slots + N ≤ R.slots) (hd : decode cc pc = .ok (.new index, 3))
    (k : ∀ q : Nat, zW p l e R s m args below meth c nL D A H0 (cells + 1) (slots + N) Q (ws ++ [(q, .inr (ci, fs))]) lv (pc + 3) (.ref q :: st)) : zW p l e R s m args below meth c nL D A H0 cells slots Q ws lv pc st := fun H locs ls h1 h2 h3 h4 =>
  va_new C.1 C.2.1 C.2.2.2.2.1 hin ty0 hty C.2.2.2.1 (C.2.2.2.2.1 _ hcl) (C.2.2.2.2.1 _ hinst) (C.2.2.2.2.1 _ hini) C.2.2.2.2.2.1 h1 h2 h3 C.2.2.2.2.2.2.1 hc hfs hcells hslots hd (fun q H1 hP hD hS => k q H1 locs ls hP hD hS h4)
theorem z_putF {ref Cn : String} {T : u_T} {N ci index a : Nat} {fs : List Value} {v : Value} {ty : FieldType} (C : zC p s m args meth c cc nL rt own Ts D tys A H0) (hin2 : meth.name = "<init>") (hin : ∀ w ∈ u_ws Cn T N, w ∈ Ts) (ty0 : Nat → FieldType) (hty : ∀ k, k < N → parseFieldDescriptor (T k).2.2.1 = some (ty0 k)) (hnm : ∀ a, a < N → ∀ b, b < N → a ≠ b → (T a).2.1 ≠ (T b).2.1) (q0 : Nat) (he : ws[q0]? = some (a, .inr (ci, fs))) (hc : vwCl[ci]? = some (Cn, T, N)) (k0 : Nat) (hk : k0 < N) (hlink : Cond.fieldLink own index ref (T k0).2.1 (T k0).2.2.1 ∈ Ts) (hsame : ∀ x, s.fieldFound? (T k0).1 (T k0).2.1 (T k0).2.2.1 = some x → s.fieldFound? ref (T k0).2.1 (T k0).2.2.1 = some x) (hfin : (T k0).2.2.2 = true) (hdecl : (T k0).1 = own) (hdsc : parseFieldDescriptor (T k0).2.2.1 = some ty) (hn : narrow ty v = v) (hfit : fits ty v = true) (hl : k0 < fs.length) (hd : decode cc pc = .ok (.putfield index, 3)) (hw : ws.set q0 (a, .inr (ci, fs.set k0 v)) = ws')
    (k : zW p l e R s m args below meth c nL D A H0 cells slots Q ws' lv (pc + 3) st) : zW p l e R s m args below meth c nL D A H0 cells slots Q ws lv pc (v :: .ref a :: st) := fun H locs ls h1 h2 h3 h4 =>
  va_putF C.1 C.2.1 C.2.2.2.2.1 hin ty0 hty hnm C.2.2.2.1 C.2.2.2.2.2.1 h1 h2 h3 q0 he hc k0 hk (C.2.2.2.2.1 _ hlink) hsame hfin hin2 hdecl hdsc hn hfit hl hd (fun H locs h1 h2 h3 => k H locs ls (hw ▸ h1) (hw ▸ h2) h3 h4)
theorem z_iend {α : Type} {ok : α → Prop} {Wf : α → va_W} (C : zC p s m args meth c cc nL rt own Ts D tys A s.heap) (hd : decode cc pc = .ok (.return_, 1)) (hr : rt = none) (ad : α) (hok : ok ad) (hw : ws = Wf ad) :
    zW p l e R s m args below meth c nL D A s.heap cells slots (MQ below (zIQ D tys ok Wf A) args s cells slots A) ws lv pc [] := fun _ _ _ h1 h2 h3 _ =>
  W.vret C.1 C.2.1 (C.2.2.2.2.2.2.2.2.trans hr) (fun t ht hW => ⟨⟨rfl, ad, hok, by rw [ht]; exact hw ▸ h1, va_K.moved hW.alike C.2.2.2.2.2.1, hw ▸ h2⟩, h3.F ht⟩) h3.2.2 hd C.2.2.2.2.2.2.2.1
theorem z_irun {α : Type} {ok : α → Prop} {Wf : α → va_W} {h0 : Nat} {e0 : va_E} {mc ms : Nat} {a : Array Value} (C : zC p s m args meth c cc nL rt own Ts D tys A H0) (pre post : va_W) (hs : ws = pre ++ ([(h0, e0)] ++ post))
    (hrun : ∀ (H : Heap) (locs : List Loc) (ls : Array Slot), va_P D vwCl ws H → va_D A ws → va_S A H0 H locs → lv_has ls nL lv → va_Run p l e R s m args below meth c H locs cells slots mc ms (F0 m pc ls st0) st (zIQ D tys ok Wf (va_A [(h0, e0)] H.size) a) (va_A [(h0, e0)] H.size))
    (k : ∀ ad : α, ok ad → zW p l e R s m args below meth c nL D A H0 (cells + mc) (slots + ms) Q (pre ++ (Wf ad ++ post)) lv (pc + 3) st) : zW p l e R s m args below meth c nL D A H0 cells slots Q ws lv pc st0 := by
  intro H locs ls h1 h2 h3 h4 T hT X
  have hFc := z_xfree C hs h2 h3
  obtain ⟨v, st₀, t, T', L, h9, X', hL, e1, e2, ⟨⟨hv, ad, hok, hP', hK', hD'⟩, hz, hk⟩, stp⟩ := hrun H locs ls h1 h2 h3 h4 T hT X
  cases hv
  rw [h9] at hz hk
  subst hs
  obtain ⟨g1, g2⟩ := z_join h1 h2 hk hFc hP' hD'
  obtain ⟨t2, a1, b1⟩ := k ad hok T'.heap (locs ++ L) ls (by rw [e1]; exact g1) g2
    ⟨Nat.le_trans h3.1 (by rw [e1]; exact hz), fun q w1 w2 => by rw [e1, hk q (Nat.lt_of_lt_of_le w1 h3.1) (fun z => w2 (hFc q z))]; exact h3.2.1 q w1 w2, fun q hq => by
      rcases List.mem_append.mp hq with h | h
      · exact h3.2.2 q h
      · exact hFc _ (hL q h)⟩ h4 T' rfl X'
  exact ⟨t2, stp t2 a1, b1⟩
theorem z_ipre {h0 : Nat} {e0 : va_E} {xs ys : List (String × Nat × MethodName × String)} {pre post : va_W} {H : Heap} (C : zC p s m args meth c cc nL rt own Ts D tys A H0) (hN : zNw xs s) (hsub : ∀ q ∈ ys, q ∈ xs) (hs : ws = pre ++ ([(h0, e0)] ++ post)) (h1 : va_P D vwCl ws H) (h2 : va_D A ws) :
    ∀ U : State, U.heap = H → s.WarmedH U.vm → va_Pc [.ref h0] (fun U => U.heap.size = H.size ∧ va_P D vwCl [(h0, e0)] U.heap ∧ va_K D vwCl tys U ∧ va_D (fun _ => True) [(h0, e0)] ∧ zNw ys U) (Value.ref h0 :: ([] : List Value)).toArray U := by
  intro U hU hW
  have hp := z_part (hs ▸ h1) (hs ▸ h2)
  exact ⟨rfl, by rw [hU], by rw [hU]; exact hp.1, va_K.moved hW.alike C.2.2.2.2.2.1, hp.2, (hN.warm hW).sub hsub⟩
/-- a constructor is called: plainly, or over the nest -/
theorem z_callI {α : Type} {ok : α → Prop} {Wf : α → va_W} {h0 : Nat} {e0 : va_E} {mc ms fr lo : Nat} {y : MethodName} {wsy wsy' : List Cond} {bytes : ByteArray} {maxL index : Nat} {xs ys : List (String × Nat × MethodName × String)} (C : zC p s m args meth c cc nL rt own Ts D tys A H0) (hN : zNw xs s) (hM : zI l y wsy fr lo mc ms D tys h0 e0 ys ok Wf) (hsub : ∀ q ∈ ys, q ∈ xs)
    (hG : GoodIn Ts wsy) (hw : wsy = Cond.code y bytes maxL none :: wsy') (hini : Cond.initialized y.cls ∈ Ts) (hl : Cond.methodLink own index y ∈ Ts) (hin : Cond.instanceMethod y ∈ Ts) (hy1 : y.name = "<init>")
    (hd' : y.cls ≠ "java/lang/invoke/MethodHandle" ∧ y.cls ≠ "java/lang/invoke/VarHandle" ∧ (parseMethodDescriptor y.desc).map (fun d => d.parameters.length) = some 0)
    (hR : fr + 1 ≤ R.frames ∧ 8 + (maxL + 11) + lo ≤ R.locals) (hf : cells + mc ≤ R.cells ∧ slots + ms ≤ R.slots) (pre post : va_W) (hs : ws = pre ++ ([(h0, e0)] ++ post)) (hroom : (st.map fun v => v.category).sum ≤ 8) (hdg : decode cc pc = .ok (.invokespecial index, 3))
    (k : ∀ ad : α, ok ad → zW p l e R s m args below meth c nL D A H0 (cells + mc) (slots + ms) Q (pre ++ (Wf ad ++ post)) lv (pc + 3) st) : zW p l e R s m args below meth c nL D A H0 cells slots Q ws lv pc (.ref h0 :: st) :=
  z_irun (a := (Value.ref h0 :: ([] : List Value)).toArray) C pre post hs (fun H locs ls h1 h2 h3 h4 =>
    va_runI (As := []) (rest := st) ⟨C.1, C.2.1, C.2.2.1, C.2.2.2.1, C.2.2.2.2.1⟩ (hM H.size) (cwI 0 C.2.2.2.2.1 hG hw rfl rfl (C.2.2.2.2.1 _ hini) (C.2.2.2.2.1 _ hl) (C.2.2.2.2.1 _ hin) hy1 hd' hR) ⟨z_iblind, z_ipre C hN hsub hs h1 h2⟩ rfl rfl h4.1 rfl (lv_room hroom) hdg hf) k
theorem z_callIN {α : Type} {ok : α → Prop} {Wf : α → va_W} {h0 : Nat} {e0 : va_E} {mc ms fr lo : Nat} {y : MethodName} {wsy wsy' : List Cond} {bytes : ByteArray} {maxL index : Nat} {host : String} {xs ys : List (String × Nat × MethodName × String)} (C : zC p s m args meth c cc nL rt own Ts D tys A H0) (hN : zNw xs s) (hM : zI l y wsy fr lo mc ms D tys h0 e0 ys ok Wf) (hsub : ∀ q ∈ ys, q ∈ xs)
    (hG : GoodIn Ts wsy) (hw : wsy = Cond.code y bytes maxL none :: wsy') (hini : Cond.initialized y.cls ∈ Ts) (hl : (own, index, y, host) ∈ xs) (hin : Cond.instanceMethod y ∈ Ts) (hy1 : y.name = "<init>")
    (hd' : y.cls ≠ "java/lang/invoke/MethodHandle" ∧ y.cls ≠ "java/lang/invoke/VarHandle" ∧ (parseMethodDescriptor y.desc).map (fun d => d.parameters.length) = some 0)
    (hR : fr + 1 ≤ R.frames ∧ 8 + (maxL + 11) + lo ≤ R.locals) (hf : cells + mc ≤ R.cells ∧ slots + ms ≤ R.slots) (pre post : va_W) (hs : ws = pre ++ ([(h0, e0)] ++ post)) (hroom : (st.map fun v => v.category).sum ≤ 8) (hdg : decode cc pc = .ok (.invokespecial index, 3))
    (k : ∀ ad : α, ok ad → zW p l e R s m args below meth c nL D A H0 (cells + mc) (slots + ms) Q (pre ++ (Wf ad ++ post)) lv (pc + 3) st) : zW p l e R s m args below meth c nL D A H0 cells slots Q ws lv pc (.ref h0 :: st) :=
  z_irun (a := (Value.ref h0 :: ([] : List Value)).toArray) C pre post hs (fun H locs ls h1 h2 h3 h4 =>
    va_runIN (host := host) (As := []) (rest := st) ⟨C.1, C.2.1, C.2.2.1, C.2.2.2.1, C.2.2.2.2.1⟩ (hM H.size) ⟨va_cnB 0 C.2.2.2.2.1 hG hw rfl rfl (hN _ hl) (C.2.2.2.2.1 _ hini) hd' hR, hy1, C.2.2.2.2.1 _ hin⟩ ⟨z_iblind, z_ipre C hN hsub hs h1 h2⟩ rfl rfl h4.1 rfl (lv_room hroom) hdg hf) k
end ZZ
