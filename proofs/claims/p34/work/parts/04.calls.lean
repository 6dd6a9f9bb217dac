/-- a method's end: what it returns, its world -/
def zQ (D : va_G) (tys : List (ClassId × FieldType)) (ret : Option Value) (wc' : va_W) (A : Nat → Prop) : Array Value → State → Outcome → State → Prop := fun _ st oc t => (oc = .returned ret ∧ va_P D vwCl wc' t.heap ∧ va_K D vwCl tys t ∧ va_D A wc') ∧ va_F A st t
/-- a method that returns ret and leaves the world wc' of wc; nothing new, nothing else changes -/
def zM (l : Launch) (y : MethodName) (ws : List Cond) (rm : Room) (D : va_G) (tys : List (ClassId × FieldType)) (As : List Value) (wc : va_W) (ret : Option Value) (wc' : va_W) : Prop :=
  ∀ sz : Nat, Met l y ws rm (va_Pc As (fun U => U.heap.size = sz ∧ va_P D vwCl wc U.heap ∧ va_K D vwCl tys U ∧ va_D (fun _ => True) wc)) (zQ D tys ret wc' (va_A wc sz)) 0 0 (va_A wc sz)
theorem z_left {a b : va_W} {k : Nat} {q : Nat × va_E} (h : a[k]? = some q) : (a ++ b)[k]? = some q := by
  have h1 := (List.getElem?_eq_some_iff.mp h).1
  rw [List.getElem?_append_left h1]; exact h
theorem z_right {a b : va_W} {k : Nat} {q : Nat × va_E} (h : b[k]? = some q) : (a ++ b)[a.length + k]? = some q := by
  rw [List.getElem?_append_right (Nat.le_add_right _ _), Nat.add_sub_cancel_left]; exact h
theorem z_cut {a b : va_W} {k : Nat} {q : Nat × va_E} (h : (a ++ b)[k]? = some q) : a[k]? = some q ∨ ∃ j, b[j]? = some q ∧ k = a.length + j := by
  by_cases hk : k < a.length
  · rw [List.getElem?_append_left hk] at h; exact Or.inl h
  · rw [List.getElem?_append_right (Nat.not_lt.mp hk)] at h; exact Or.inr ⟨k - a.length, h, by omega⟩
/-- a part of a world is changed by a callee -/
theorem z_join {A0 : Nat → Prop} {D : va_G} {cl : List vw_C} {wc wc' pre post : va_W} {H H1 : Heap} (hP : va_P D cl (pre ++ (wc ++ post)) H) (hD : va_D A0 (pre ++ (wc ++ post)))
    (hk : ∀ q : Nat, q < H.size → ¬ va_A wc H.size q → H1[q]? = H[q]?) (hF : ∀ q, va_A wc H.size q → A0 q) (hP1 : va_P D cl wc' H1) (hD1 : va_D (va_A wc H.size) wc') :
    va_P D cl (pre ++ (wc' ++ post)) H1 ∧ va_D A0 (pre ++ (wc' ++ post)) := by
  have apart1 : ∀ (k : Nat) (q : Nat × va_E), pre[k]? = some q → q.1 < H.size ∧ ¬ va_A wc H.size q.1 := by
    intro k q hq
    have hl := (hP k q (z_left hq)).lt
    refine ⟨hl, fun h => ?_⟩
    rcases h with ⟨j, e, h⟩ | h
    · have := hD.1 k (pre.length + j) q (q.1, e) (z_left hq) (z_right (z_left h)) rfl
      have h1 := (List.getElem?_eq_some_iff.mp hq).1
      omega
    · omega
  have apart2 : ∀ (k : Nat) (q : Nat × va_E), post[k]? = some q → q.1 < H.size ∧ ¬ va_A wc H.size q.1 := by
    intro k q hq
    have hl := (hP _ q (z_right (z_right hq))).lt
    refine ⟨hl, fun h => ?_⟩
    rcases h with ⟨j, e, h⟩ | h
    · have := hD.1 _ (pre.length + j) q (q.1, e) (z_right (z_right hq)) (z_right (z_left h)) rfl
      have h1 := (List.getElem?_eq_some_iff.mp h).1
      omega
    · omega
  constructor
  · intro k q hq
    rcases z_cut hq with h | ⟨j, h, rfl⟩
    · obtain ⟨g1, g2⟩ := apart1 k q h
      exact (hP k q (z_left h)).kept (hk q.1 g1 g2)
    · rcases z_cut h with h5 | ⟨i, h6, -⟩
      · exact hP1 j q h5
      · obtain ⟨g1, g2⟩ := apart2 i q h6
        exact (hP _ q (z_right (z_right h6))).kept (hk q.1 g1 g2)
  · have hpre : va_D A0 pre := ⟨fun i j x y hx hy hxy => hD.1 i j x y (z_left hx) (z_left hy) hxy, fun k q hq => hD.2 k q (z_left hq)⟩
    have hpost : va_D A0 post := ⟨fun i j x y hx hy hxy => by have := hD.1 _ _ x y (z_right (z_right hx)) (z_right (z_right hy)) hxy; omega, fun k q hq => hD.2 _ q (z_right (z_right hq))⟩
    refine va_D.app hpre (va_D.app (hD1.weaken (fun k q _ h => hF q.1 h)) hpost (fun i j x y hx hy hxy => ?_)) (fun i j x y hx hy hxy => ?_)
    · exact (apart2 j y hy).2 (by rw [← hxy]; exact hD1.2 i x hx)
    · rcases z_cut hy with h | ⟨k, h, rfl⟩
      · exact (apart1 i x hx).2 (by rw [hxy]; exact hD1.2 j y h)
      · have := hD.1 _ _ x y (z_left hx) (z_right (z_right h)) hxy
        have h1 := (List.getElem?_eq_some_iff.mp hx).1
        omega
theorem z_blind {D : va_G} {tys : List (ClassId × FieldType)} {As : List Value} {wc : va_W} {sz : Nat} : FrameBlind (va_Pc As (fun U => U.heap.size = sz ∧ va_P D vwCl wc U.heap ∧ va_K D vwCl tys U ∧ va_D (fun _ => True) wc)) := fun a U g mk q => by
  obtain ⟨q0, q1, qP, qK, qD⟩ := q
  exact ⟨q0, q1, qP, va_K.moved (u := U) (U := U.calling g mk a) (Vm.Alike.refl U.vm) qK, qD⟩
section ZB
variable {l : Launch}
/-- a method's contract out of the walk of its body -/
theorem z_body {y : MethodName} {ws ws' : List Cond} {rm : Room} {cc : ByteArray} {maxL : Nat} {rty : Option FieldType} {D : va_G} {tys : List (ClassId × FieldType)} {As : List Value} {wc wc' : va_W} {ret : Option Value} {lv : List (Nat × Value)} {own : String}
    (hy : plainName y.cls = true) (ho : y.cls = own) (hw : ws = Cond.code y cc maxL rty :: ws') (hlen : (lg_sl As).length ≤ maxL) (hlv : lv_args 0 As = lv)
    (body : ∀ (p : Program) (e : Env) (s : State) (m : MethodId) (args : Array Value) (below : List Frame) (meth : Method) (c : Code) (A : Nat → Prop), zC p s m args meth c cc maxL rty own ws D tys A s.heap →
      zW p l e rm s m args below meth c maxL D A s.heap 0 0 (MQ below (zQ D tys ret wc' A) args s 0 0 A) wc lv 0 []) : zM l y ws rm D tys As wc ret wc' := by
  intro sz
  refine Met.ofW (cc := cc) (maxL := maxL) (ret := rty) hy hw ?_
  intro p e s m args below meth c s₁ B hml hv
  obtain ⟨rfl, hsz, hP, hK, hD0⟩ := hv
  have hts := atoms_spec (ws := ws) B.pre
  have hown := findClass_of_methodNamed B.named
  rw [ho] at hown
  subst hsz
  have hD := hD0.self (sz := s.heap.size)
  rw [lg_entry_eq]
  subst hlv
  exact body p e s m _ below meth c (va_A wc s.heap.size) ⟨B.exec, B.bytes, hml, hown, hts, hK, fun q h => Or.inr h, B.notSynchronized, B.returns⟩ s.heap [] _ hP hD va_S.rf (lv_entry As hlen)
end ZB
section ZZ
variable {p : Program} {l : Launch} {e : Env} {R : Room} {s : State} {m : MethodId} {args : Array Value} {below : List Frame} {meth : Method} {c : Code} {cells slots : Nat} {Q : State → Prop}
variable {cc : ByteArray} {nL : Nat} {rt : Option FieldType} {own : String} {Ts : List Cond} {D : va_G} {tys : List (ClassId × FieldType)} {A : Nat → Prop} {H0 : Heap}
variable {ws ws' : va_W} {lv lv' : List (Nat × Value)} {pc : Nat} {st st0 : List Value}
theorem z_iret {v : Int32} {ty : FieldType} (C : zC p s m args meth c cc nL rt own Ts D tys A s.heap) (hd : decode cc pc = .ok (.ireturn, 1)) (hr : rt = some ty) (hn : narrow ty (.int v) = .int v) :
    zW p l e R s m args below meth c nL D A s.heap 0 0 (MQ below (zQ D tys (some (.int v)) ws A) args s 0 0 A) ws lv pc [.int v] := fun _ _ _ h1 h2 h3 _ =>
  W.zret C.1 C.2.1 (C.2.2.2.2.2.2.2.2.trans hr) hn (fun t ht hW => ⟨⟨rfl, by rw [ht]; exact h1, va_K.moved hW.alike C.2.2.2.2.2.1, h2⟩, h3.F ht⟩) h3.2.2 hd C.2.2.2.2.2.2.2.1
theorem z_lret {v : Int64} (C : zC p s m args meth c cc nL rt own Ts D tys A s.heap) (hd : decode cc pc = .ok (.lreturn, 1)) (hr : rt = some .long) :
    zW p l e R s m args below meth c nL D A s.heap 0 0 (MQ below (zQ D tys (some (.long v)) ws A) args s 0 0 A) ws lv pc [.long v] := fun _ _ _ h1 h2 h3 _ =>
  W.lret C.1 C.2.1 (C.2.2.2.2.2.2.2.2.trans hr) (fun t ht hW => ⟨⟨rfl, by rw [ht]; exact h1, va_K.moved hW.alike C.2.2.2.2.2.1, h2⟩, h3.F ht⟩) h3.2.2 hd C.2.2.2.2.2.2.2.1
theorem z_vret (C : zC p s m args meth c cc nL rt own Ts D tys A s.heap) (hd : decode cc pc = .ok (.return_, 1)) (hr : rt = none) :
    zW p l e R s m args below meth c nL D A s.heap 0 0 (MQ below (zQ D tys none ws A) args s 0 0 A) ws lv pc [] := fun _ _ _ h1 h2 h3 _ =>
  W.vret C.1 C.2.1 (C.2.2.2.2.2.2.2.2.trans hr) (fun t ht hW => ⟨⟨rfl, by rw [ht]; exact h1, va_K.moved hW.alike C.2.2.2.2.2.1, h2⟩, h3.F ht⟩) h3.2.2 hd C.2.2.2.2.2.2.2.1
/-- what a call has done, told over worlds -/
theorem z_run {ret : Option Value} {wc wc' pre post : va_W} {a : Array Value} (C : zC p s m args meth c cc nL rt own Ts D tys A H0) (hs : ws = pre ++ (wc ++ post)) (hs' : pre ++ (wc' ++ post) = ws')
    (hrun : ∀ (H : Heap) (locs : List Loc) (ls : Array Slot), va_P D vwCl ws H → va_D A ws → va_S A H0 H locs → lv_has ls nL lv → va_Run p l e R s m args below meth c H locs cells slots 0 0 (F0 m pc ls st0) st (zQ D tys ret wc' (va_A wc H.size) a) (va_A wc H.size))
    (k : zW p l e R s m args below meth c nL D A H0 cells slots Q ws' lv (pc + 3) (ret.toList ++ st)) : zW p l e R s m args below meth c nL D A H0 cells slots Q ws lv pc st0 := by
  intro H locs ls h1 h2 h3 h4 T hT X
  have hFc : ∀ q, va_A wc H.size q → A q := by
    intro q hq
    rcases hq with ⟨j, e9, h⟩ | h
    · exact h2.2 (pre.length + j) (q, e9) (by rw [hs]; exact z_right (z_left h))
    · exact C.2.2.2.2.2.2.1 q (Nat.le_trans h3.1 h)
  obtain ⟨v, st₀, t, T', L, h0, X', hL, e1, e2, ⟨⟨hv, hP', hK', hD'⟩, hz, hk⟩, stp⟩ := hrun H locs ls h1 h2 h3 h4 T hT X
  cases hv
  rw [h0] at hz hk
  subst hs
  obtain ⟨g1, g2⟩ := z_join h1 h2 hk hFc hP' hD'
  rw [hs'] at g1 g2
  obtain ⟨t2, a1, b1⟩ := k T'.heap (locs ++ L) ls (by rw [e1]; exact g1) g2
    ⟨Nat.le_trans h3.1 (by rw [e1]; exact hz), fun q w1 w2 => by rw [e1, hk q (Nat.lt_of_lt_of_le w1 h3.1) (fun z => w2 (hFc q z))]; exact h3.2.1 q w1 w2, fun q hq => by
      rcases List.mem_append.mp hq with h | h
      · exact h3.2.2 q h
      · exact hFc _ (hL q h)⟩ h4 T' rfl X'
  exact ⟨t2, stp t2 a1, b1⟩
theorem z_part {wc pre post : va_W} {H : Heap} (h1 : va_P D vwCl (pre ++ (wc ++ post)) H) (h2 : va_D A (pre ++ (wc ++ post))) : va_P D vwCl wc H ∧ va_D (fun _ => True) wc :=
  ⟨fun k q hq => h1 (pre.length + k) q (z_right (z_left hq)), ⟨fun i j x y hx hy hxy => by have := h2.1 _ _ x y (z_right (z_left hx)) (z_right (z_left hy)) hxy; omega, fun _ _ _ => trivial⟩⟩
/-- a call of a method of the receiver's own class -/
theorem z_callV {y : MethodName} {wsy wsy' : List Cond} {rm : Room} {bytes : ByteArray} {maxL index n : Nat} {rty : Option FieldType} {Cn : String} {b ci N : Nat} {As : List Value} {ret : Option Value} {wc wc' : va_W} {T : u_T} {fs : List Value}
    (C : zC p s m args meth c cc nL rt own Ts D tys A H0) (hM : zM l y wsy rm D tys (.ref b :: As) wc ret wc') (hG : GoodIn Ts (wsV own index Cn y wsy)) (hw : wsy = Cond.code y bytes maxL rty :: wsy') (hrc : rm.cells = 0) (hrs : rm.slots = 0)
    (hd' : y.cls = Cn ∧ y.cls ≠ "java/lang/invoke/MethodHandle" ∧ y.cls ≠ "java/lang/invoke/VarHandle" ∧ (parseMethodDescriptor y.desc).map (fun d => d.parameters.length) = some n)
    (hR : rm.frames + 1 ≤ R.frames ∧ 8 + (maxL + 11) + rm.locals ≤ R.locals) (hf : cells ≤ R.cells ∧ slots ≤ R.slots) (q0 : Nat) (he : ws[q0]? = some (b, .inr (ci, fs))) (hc : vwCl[ci]? = some (Cn, T, N))
    (pre post : va_W) (hs : ws = pre ++ (wc ++ post)) (hs' : pre ++ (wc' ++ post) = ws') (hst : st0 = As.reverse ++ .ref b :: st) (hn : As.length = n) (hroom : (st.map fun v => v.category).sum ≤ 8) (hdg : decode cc pc = .ok (.invokevirtual index, 3))
    (k : zW p l e R s m args below meth c nL D A H0 cells slots Q ws' lv (pc + 3) (ret.toList ++ st)) : zW p l e R s m args below meth c nL D A H0 cells slots Q ws lv pc st0 := by
  refine z_run (a := (Value.ref b :: As).toArray) C hs hs' (fun H locs ls h1 h2 h3 h4 => ?_) k
  have hp := z_part (hs ▸ h1) (hs ▸ h2)
  exact va_runV (As := As) (rest := st) ⟨C.1, C.2.1, C.2.2.1, C.2.2.2.1, C.2.2.2.2.1⟩ (hM H.size) (cwV n C.2.2.2.2.1 hG hw hrc hrs hd' hR) ⟨z_blind, va_recv C.2.2.2.2.2.1 h1 hc he, fun U hU hW => ⟨rfl, by rw [hU], by rw [hU]; exact hp.1, va_K.moved hW.alike C.2.2.2.2.2.1, hp.2⟩⟩ rfl hn h4.1 hst (lv_room hroom) hdg hf
/-- a call of an inherited method -/
theorem z_callU {x y : MethodName} {wsy wsy' : List Cond} {rm : Room} {bytes : ByteArray} {maxL index n : Nat} {rty : Option FieldType} {Cn owner : String} {b ci N : Nat} {As : List Value} {ret : Option Value} {wc wc' : va_W} {T : u_T} {fs : List Value}
    (C : zC p s m args meth c cc nL rt own Ts D tys A H0) (hM : zM l y wsy rm D tys (.ref b :: As) wc ret wc') (hG : GoodIn Ts (va_wsU own index Cn owner x y wsy)) (hw : wsy = Cond.code y bytes maxL rty :: wsy') (hrc : rm.cells = 0) (hrs : rm.slots = 0) (hyx : y = ⟨owner, x.name, x.desc⟩)
    (hd' : owner ≠ "java/lang/invoke/MethodHandle" ∧ owner ≠ "java/lang/invoke/VarHandle" ∧ (parseMethodDescriptor x.desc).map (fun d => d.parameters.length) = some n)
    (hR : rm.frames + 1 ≤ R.frames ∧ 8 + (maxL + 11) + rm.locals ≤ R.locals) (hf : cells ≤ R.cells ∧ slots ≤ R.slots) (q0 : Nat) (he : ws[q0]? = some (b, .inr (ci, fs))) (hc : vwCl[ci]? = some (Cn, T, N))
    (pre post : va_W) (hs : ws = pre ++ (wc ++ post)) (hs' : pre ++ (wc' ++ post) = ws') (hst : st0 = As.reverse ++ .ref b :: st) (hn : As.length = n) (hroom : (st.map fun v => v.category).sum ≤ 8) (hdg : decode cc pc = .ok (.invokevirtual index, 3))
    (k : zW p l e R s m args below meth c nL D A H0 cells slots Q ws' lv (pc + 3) (ret.toList ++ st)) : zW p l e R s m args below meth c nL D A H0 cells slots Q ws lv pc st0 := by
  refine z_run (a := (Value.ref b :: As).toArray) C hs hs' (fun H locs ls h1 h2 h3 h4 => ?_) k
  have hp := z_part (hs ▸ h1) (hs ▸ h2)
  exact va_runU (As := As) (rest := st) ⟨C.1, C.2.1, C.2.2.1, C.2.2.2.1, C.2.2.2.2.1⟩ (hM H.size) (va_cwU n C.2.2.2.2.1 hG hw hrc hrs hyx hd' hR) ⟨z_blind, va_recv C.2.2.2.2.2.1 h1 hc he, fun U hU hW => ⟨rfl, by rw [hU], by rw [hU]; exact hp.1, va_K.moved hW.alike C.2.2.2.2.2.1, hp.2⟩⟩ rfl hn h4.1 hst (lv_room hroom) hdg hf
/-- a call of a static method -/
theorem z_callS {y : MethodName} {wsy wsy' : List Cond} {rm : Room} {bytes : ByteArray} {maxL index n : Nat} {rty : Option FieldType} {As : List Value} {ret : Option Value}
    (C : zC p s m args meth c cc nL rt own Ts D tys A H0) (hM : zM l y wsy rm D tys As [] ret []) (hG : GoodIn Ts (va_wsS own index y wsy)) (hw : wsy = Cond.code y bytes maxL rty :: wsy') (hrc : rm.cells = 0) (hrs : rm.slots = 0)
    (hd' : y.cls ≠ "java/lang/invoke/MethodHandle" ∧ y.cls ≠ "java/lang/invoke/VarHandle" ∧ (parseMethodDescriptor y.desc).map (fun d => d.parameters.length) = some n)
    (hR : rm.frames + 1 ≤ R.frames ∧ 8 + (maxL + 11) + rm.locals ≤ R.locals) (hf : cells ≤ R.cells ∧ slots ≤ R.slots)
    (hst : st0 = As.reverse ++ st) (hn : As.length = n) (hroom : (st.map fun v => v.category).sum ≤ 8) (hdg : decode cc pc = .ok (.invokestatic index, 3))
    (k : zW p l e R s m args below meth c nL D A H0 cells slots Q ws lv (pc + 3) (ret.toList ++ st)) : zW p l e R s m args below meth c nL D A H0 cells slots Q ws lv pc st0 := by
  refine z_run (a := As.toArray) (wc := []) (wc' := []) (pre := ws) (post := []) C (by simp) (by simp) (fun H locs ls h1 h2 h3 h4 => ?_) k
  exact va_runS (As := As) (rest := st) ⟨C.1, C.2.1, C.2.2.1, C.2.2.2.1, C.2.2.2.2.1⟩ (hM H.size) (va_cwS n C.2.2.2.2.1 hG hw hrc hrs hd' hR) ⟨z_blind, fun U hU hW => ⟨rfl, by rw [hU], fun k q h => by simp at h, va_K.moved hW.alike C.2.2.2.2.2.1, ⟨fun i j x y h => by simp at h, fun k q h => by simp at h⟩⟩⟩ rfl hn h4.1 hst (lv_room hroom) hdg hf
end ZZ
