/-- what a method that throws leaves new: one cell of six slots; one that returns: nothing -/
def zmc (o : String ⊕ (Option Value × va_W)) : Nat := match o with
  | .inl _ => 1
  | .inr _ => 0
def zms (o : String ⊕ (Option Value × va_W)) : Nat := match o with
  | .inl _ => 6
  | .inr _ => 0
def zrm (o : String ⊕ (Option Value × va_W)) (fr lo : Nat) : Room := { frames := fr, cells := zmc o, slots := zms o, locals := lo }
def zo {α : Type} (g : α → Option Value × va_W) (u : String ⊕ α) : String ⊕ (Option Value × va_W) := match u with
  | .inl E => .inl E
  | .inr v => .inr (g v)
/-- the texts that the class throws with, by their places in its pool -/
def zStr : List (Nat × String) := [(54, "there are 8 policies"), (74, "no pattern"), (89, "the policy has 6 rules"), (108, "there are 6 mounts"), (119, "a policy that there is not, or that the parent has not"), (131, "30 tokens are alive"), (179, "40 credentials are alive"), (191, "the credential is not alive"), (245, "no such policy"), (249, "there never was such a token"), (252, "there never was such a credential"), (255, "no such entry"), (257, "the token is not alive"), (259, "the root has no end"), (264, "no path"), (266, "out of its range")]
/-- what a throw wants of the launch -/
def zE (A : Nat → Prop) (U : State) (H : Heap) : Prop := vx_Zq Bundle.tN "UNASSIGNED_STACK" Bundle.steD A U H ∧ vx_Zq Bundle.tN "SUPPRESSED_SENTINEL" Bundle.listD A U H ∧
  ((va_Nw (.castable "java/lang/IllegalStateException" "java/lang/IllegalStateException") U ∧ va_Nw (.castable "java/lang/IllegalArgumentException" "java/lang/IllegalArgumentException") U ∧ va_Nw (.castable "java/lang/IndexOutOfBoundsException" "java/lang/IndexOutOfBoundsException") U) ∧
   va_Nw (.declares (Bundle.initS "java/lang/RuntimeException")) U ∧ va_Nw (.declares (Bundle.initS "java/lang/Exception")) U ∧ va_Nw (.declares (Bundle.initS Bundle.tN)) U) ∧
  ∀ q ∈ zStr, ∃ sa, vk_R RX7 q.1 q.2 sa U
theorem zE_to {A B : Nat → Prop} {s U : State} {H H1 : Heap} (h : zE A s H) (hW : s.WarmedH U.vm) (hk : ∀ q : Nat, q < H.size → ¬ A q → H1[q]? = H[q]?) (hAB : ∀ q, B q → A q) : zE B U H1 :=
  ⟨((h.1.moved hW.alike).kept hk).narrow hAB, ((h.2.1.moved hW.alike).kept hk).narrow hAB, ⟨⟨va_Nw.warmC hW h.2.2.1.1.1, va_Nw.warmC hW h.2.2.1.1.2.1, va_Nw.warmC hW h.2.2.1.1.2.2⟩, va_Nw.warmD hW h.2.2.1.2.1, va_Nw.warmD hW h.2.2.1.2.2.1, va_Nw.warmD hW h.2.2.1.2.2.2⟩, fun q hq => by
    obtain ⟨sa, h9⟩ := h.2.2.2 q hq
    exact ⟨sa, vk_R.warm hW h9⟩⟩
def zOQ (D : va_G) (tys : List (ClassId × FieldType)) (o : String ⊕ (Option Value × va_W)) (A : Nat → Prop) : Array Value → State → Outcome → State → Prop := fun _ st oc t => (match o with
  | .inl _ => False
  | .inr u => oc = .returned u.1 ∧ va_P D vwCl u.2 t.heap ∧ va_K D vwCl tys t ∧ va_D A u.2) ∧ va_F A st t
def zOX (D : va_G) (tys : List (ClassId × FieldType)) (wc : va_W) (o : String ⊕ (Option Value × va_W)) (A : Nat → Prop) : String → State → State → Prop := fun E st t => (match o with
  | .inl E9 => E = E9 ∧ va_P D vwCl wc t.heap ∧ va_K D vwCl tys t ∧ va_D A wc ∧ st.heap.size < t.heap.size
  | .inr _ => False) ∧ va_F A st t
/-- a method that returns or throws, as o says -/
def zO (l : Launch) (y : MethodName) (ws : List Cond) (fr lo : Nat) (D : va_G) (tys : List (ClassId × FieldType)) (As : List Value) (wc : va_W) (o : String ⊕ (Option Value × va_W)) : Prop :=
  ∀ sz : Nat, vx_Met l y ws (zrm o fr lo) (va_Pc As (fun U => U.heap.size = sz ∧ va_P D vwCl wc U.heap ∧ va_K D vwCl tys U ∧ va_D (fun _ => True) wc ∧ zE (va_A wc sz) U U.heap)) (zOQ D tys o (va_A wc sz)) (zOX D tys wc o (va_A wc sz)) (zmc o) (zms o) (va_A wc sz)
theorem z_xblind {D : va_G} {tys : List (ClassId × FieldType)} {As : List Value} {wc : va_W} {sz : Nat} : FrameBlind (va_Pc As (fun U => U.heap.size = sz ∧ va_P D vwCl wc U.heap ∧ va_K D vwCl tys U ∧ va_D (fun _ => True) wc ∧ zE (va_A wc sz) U U.heap)) := fun a U g mk q => by
  obtain ⟨q0, q1, qP, qK, qD, qE⟩ := q
  exact ⟨q0, q1, qP, va_K.moved (u := U) (U := U.calling g mk a) (Vm.Alike.refl U.vm) qK, qD, zE_to (U := U.calling g mk a) (H1 := (U.calling g mk a).heap) qE (State.WarmedH.refl U) (fun _ _ _ => rfl) (fun _ h => h)⟩
/-- while a method that may throw runs -/
def zXc (s : State) (A : Nat → Prop) (c : Code) : Prop := zE A s s.heap ∧ ∀ x ∈ c.exceptionTable.toList, False
section ZB
variable {l : Launch}
theorem z_xbody {y : MethodName} {ws ws' : List Cond} {fr lo : Nat} {cc : ByteArray} {maxL : Nat} {rty : Option FieldType} {D : va_G} {tys : List (ClassId × FieldType)} {As : List Value} {wc : va_W} {o : String ⊕ (Option Value × va_W)} {lv : List (Nat × Value)} {own : String}
    (hy : plainName y.cls = true) (ho : y.cls = own) (hw : ws = Cond.code y cc maxL rty :: ws') (hlen : (lg_sl As).length ≤ maxL) (hlv : lv_args 0 As = lv)
    (body : ∀ (p : Program) (e : Env) (s : State) (m : MethodId) (args : Array Value) (below : List Frame) (meth : Method) (c : Code) (A : Nat → Prop), zC p s m args meth c cc maxL rty own ws D tys A s.heap → zXc s A c →
      zW p l e (zrm o fr lo) s m args below meth c maxL D A s.heap 0 0 (vx_MQ below (zOQ D tys o A) (zOX D tys wc o A) args s (zmc o) (zms o) A) wc lv 0 []) : zO l y ws fr lo D tys As wc o := by
  intro sz
  refine vx_ofW (cc := cc) (maxL := maxL) (ret := rty) hy hw ?_
  intro p e s m args below meth c s₁ B hml ht hv
  obtain ⟨rfl, hsz, hP, hK, hD0, hE⟩ := hv
  have hts := atoms_spec (ws := ws) B.pre
  have hown := findClass_of_methodNamed B.named
  rw [ho] at hown
  subst hsz
  have hD := hD0.self (sz := s.heap.size)
  rw [lg_entry_eq]
  subst hlv
  exact body p e s m _ below meth c (va_A wc s.heap.size) ⟨B.exec, B.bytes, hml, hown, hts, hK, fun q h => Or.inr h, B.notSynchronized, B.returns⟩ ⟨hE, ht⟩ s.heap [] _ hP hD va_S.rf (lv_entry As hlen)
end ZB
section ZZ
variable {p : Program} {l : Launch} {e : Env} {R : Room} {s : State} {m : MethodId} {args : Array Value} {below : List Frame} {meth : Method} {c : Code} {cells slots : Nat} {Q : State → Prop}
variable {cc : ByteArray} {nL : Nat} {rt : Option FieldType} {own : String} {Ts : List Cond} {D : va_G} {tys : List (ClassId × FieldType)} {A : Nat → Prop} {H0 : Heap}
variable {ws ws' : va_W} {lv lv' : List (Nat × Value)} {pc : Nat} {st st0 : List Value} {XC : String → State → State → Prop}
theorem z_xiret {v : Int32} {ty : FieldType} (C : zC p s m args meth c cc nL rt own Ts D tys A s.heap) (hd : decode cc pc = .ok (.ireturn, 1)) (hr : rt = some ty) (hn : narrow ty (.int v) = .int v) :
    zW p l e R s m args below meth c nL D A s.heap 0 0 (vx_MQ below (zOQ D tys (.inr (some (.int v), ws)) A) XC args s 0 0 A) ws lv pc [.int v] := fun _ _ _ h1 h2 h3 _ =>
  vx_ret (W.zret C.1 C.2.1 (C.2.2.2.2.2.2.2.2.trans hr) hn (fun t ht hW => ⟨⟨rfl, by rw [ht]; exact h1, va_K.moved hW.alike C.2.2.2.2.2.1, h2⟩, h3.F ht⟩) h3.2.2 hd C.2.2.2.2.2.2.2.1)
theorem z_xlret {v : Int64} (C : zC p s m args meth c cc nL rt own Ts D tys A s.heap) (hd : decode cc pc = .ok (.lreturn, 1)) (hr : rt = some .long) :
    zW p l e R s m args below meth c nL D A s.heap 0 0 (vx_MQ below (zOQ D tys (.inr (some (.long v), ws)) A) XC args s 0 0 A) ws lv pc [.long v] := fun _ _ _ h1 h2 h3 _ =>
  vx_ret (W.lret C.1 C.2.1 (C.2.2.2.2.2.2.2.2.trans hr) (fun t ht hW => ⟨⟨rfl, by rw [ht]; exact h1, va_K.moved hW.alike C.2.2.2.2.2.1, h2⟩, h3.F ht⟩) h3.2.2 hd C.2.2.2.2.2.2.2.1)
theorem z_xvret (C : zC p s m args meth c cc nL rt own Ts D tys A s.heap) (hd : decode cc pc = .ok (.return_, 1)) (hr : rt = none) :
    zW p l e R s m args below meth c nL D A s.heap 0 0 (vx_MQ below (zOQ D tys (.inr (none, ws)) A) XC args s 0 0 A) ws lv pc [] := fun _ _ _ h1 h2 h3 _ =>
  vx_ret (W.vret C.1 C.2.1 (C.2.2.2.2.2.2.2.2.trans hr) (fun t ht hW => ⟨⟨rfl, by rw [ht]; exact h1, va_K.moved hW.alike C.2.2.2.2.2.1, h2⟩, h3.F ht⟩) h3.2.2 hd C.2.2.2.2.2.2.2.1)
/-- 'throw new E("text")' -/
theorem z_throw {E text : String} {ik is ic fr lo : Nat} (C : zC p s m args meth c cc nL rt RX7 Ts D tys A s.heap) (X : zXc s A c) (hl : l.stackTraces = false)
    (hcls : Bundle.fit E = true) (hk : Cond.classLink RX7 ik E ∈ Ts) (hini : Cond.initialized E ∈ Ts) (hstr : (is, text) ∈ zStr)
    (hat : ∀ w ∈ (vx_atS RX7 ic E ["java/lang/RuntimeException", "java/lang/Exception"]).filter goodWord, w ∈ Ts) (hbad : ∀ w ∈ (vx_atS RX7 ic E ["java/lang/RuntimeException", "java/lang/Exception"]).filter (fun w => !goodWord w), w ∈ [Cond.castable E E, Cond.declares (Bundle.initS "java/lang/RuntimeException"), Cond.declares (Bundle.initS "java/lang/Exception"), Cond.declares (Bundle.initS Bundle.tN)]) (hca : va_Nw (.castable E E) s)
    (hgood : ∀ w ∈ Cond.classLink RX7 ik E :: Cond.initialized E :: vx_atS RX7 ic E ["java/lang/RuntimeException", "java/lang/Exception"], vx_ot w = true)
    (d0 : decode cc pc = .ok (.new ik, 3)) (d3 : decode cc (pc + 3) = .ok (.dup, 1)) (d4 : decode cc (pc + 4) = .ok (.ldc is, 2)) (d6 : decode cc (pc + 6) = .ok (.invokespecial ic, 3)) (d9 : decode cc (pc + 9) = .ok (.athrow, 1))
    (hfr : 6 ≤ fr) (hlo : (st.map fun v => v.category).sum + 82 ≤ lo) :
    zW p l e (zrm (.inl E) fr lo) s m args below meth c nL D A s.heap 0 0 (vx_MQ below (zOQ D tys (.inl E) A) (zOX D tys ws (.inl E) A) args s 1 6 A) ws lv pc st := by
  intro H locs ls h1 h2 h3 h4
  obtain ⟨sa, hsa⟩ := X.1.2.2.2 _ hstr
  refine zx_throwS (text := text) (names := ["java/lang/RuntimeException", "java/lang/Exception"]) C.1 C.2.1 hl C.2.2.2.1 hcls (by decide +kernel) (C.2.2.2.2.1 _ hk) (C.2.2.2.2.1 _ hini) hsa
    (vx_hat (fun w hw => C.2.2.2.2.1 w (hat w hw)) hbad (vx_c (va_Nw.use rfl hca) (vx_c (va_Nw.use rfl X.1.2.2.1.2.1) (vx_c (va_Nw.use rfl X.1.2.2.1.2.2.1) (vx_c (va_Nw.use rfl X.1.2.2.1.2.2.2) vx_n))))) hgood X.1.1 X.1.2.1 h3 (h4.1.trans C.2.2.1.symm) d0 d3 d4 d6 d9 (fun x hx => (X.2 x hx).elim) (by show 2 + 3 < fr; omega) (by show _ + (13 * (2 + 1) + 43) ≤ lo; omega) (Nat.le_refl 1) (Nat.le_refl 6) C.2.2.2.2.2.2.2.1 (fun t hA hz hq => ?_) h3.2.2 (Nat.le_refl 1) (Nat.le_refl 6)
  exact ⟨⟨rfl, h1.kept (fun k q hk => hq q.1 (h1 k q hk).lt), va_K.moved hA C.2.2.2.2.2.1, h2, Nat.lt_of_le_of_lt h3.1 hz⟩, Nat.le_trans h3.1 (Nat.le_of_lt hz), fun q g1 g2 => (hq q (Nat.lt_of_lt_of_le g1 h3.1)).trans (h3.2.1 q g1 g2)⟩
/-- 'throw new E("text")' -/
theorem z_throwW {E text : String} {ik is ic fr lo : Nat} (C : zC p s m args meth c cc nL rt RX7 Ts D tys A s.heap) (X : zXc s A c) (hl : l.stackTraces = false)
    (hcls : Bundle.fit E = true) (hk : Cond.classLink RX7 ik E ∈ Ts) (hini : Cond.initialized E ∈ Ts) (hstr : (is, text) ∈ zStr)
    (hat : ∀ w ∈ (vx_atS RX7 ic E ["java/lang/RuntimeException", "java/lang/Exception"]).filter goodWord, w ∈ Ts) (hbad : ∀ w ∈ (vx_atS RX7 ic E ["java/lang/RuntimeException", "java/lang/Exception"]).filter (fun w => !goodWord w), w ∈ [Cond.castable E E, Cond.declares (Bundle.initS "java/lang/RuntimeException"), Cond.declares (Bundle.initS "java/lang/Exception"), Cond.declares (Bundle.initS Bundle.tN)]) (hca : va_Nw (.castable E E) s)
    (hgood : ∀ w ∈ Cond.classLink RX7 ik E :: Cond.initialized E :: vx_atS RX7 ic E ["java/lang/RuntimeException", "java/lang/Exception"], vx_ot w = true)
    (d0 : decode cc pc = .ok (.new ik, 3)) (d3 : decode cc (pc + 3) = .ok (.dup, 1)) (d4 : decode cc (pc + 4) = .ok (.ldc_w is, 3)) (d6 : decode cc (pc + 7) = .ok (.invokespecial ic, 3)) (d9 : decode cc (pc + 10) = .ok (.athrow, 1))
    (hfr : 6 ≤ fr) (hlo : (st.map fun v => v.category).sum + 82 ≤ lo) :
    zW p l e (zrm (.inl E) fr lo) s m args below meth c nL D A s.heap 0 0 (vx_MQ below (zOQ D tys (.inl E) A) (zOX D tys ws (.inl E) A) args s 1 6 A) ws lv pc st := by
  intro H locs ls h1 h2 h3 h4
  obtain ⟨sa, hsa⟩ := X.1.2.2.2 _ hstr
  refine zx_throwSW (text := text) (names := ["java/lang/RuntimeException", "java/lang/Exception"]) C.1 C.2.1 hl C.2.2.2.1 hcls (by decide +kernel) (C.2.2.2.2.1 _ hk) (C.2.2.2.2.1 _ hini) hsa
    (vx_hat (fun w hw => C.2.2.2.2.1 w (hat w hw)) hbad (vx_c (va_Nw.use rfl hca) (vx_c (va_Nw.use rfl X.1.2.2.1.2.1) (vx_c (va_Nw.use rfl X.1.2.2.1.2.2.1) (vx_c (va_Nw.use rfl X.1.2.2.1.2.2.2) vx_n))))) hgood X.1.1 X.1.2.1 h3 (h4.1.trans C.2.2.1.symm) d0 d3 d4 d6 d9 (fun x hx => (X.2 x hx).elim) (by show 2 + 3 < fr; omega) (by show _ + (13 * (2 + 1) + 43) ≤ lo; omega) (Nat.le_refl 1) (Nat.le_refl 6) C.2.2.2.2.2.2.2.1 (fun t hA hz hq => ?_) h3.2.2 (Nat.le_refl 1) (Nat.le_refl 6)
  exact ⟨⟨rfl, h1.kept (fun k q hk => hq q.1 (h1 k q hk).lt), va_K.moved hA C.2.2.2.2.2.1, h2, Nat.lt_of_le_of_lt h3.1 hz⟩, Nat.le_trans h3.1 (Nat.le_of_lt hz), fun q g1 g2 => (hq q (Nat.lt_of_lt_of_le g1 h3.1)).trans (h3.2.1 q g1 g2)⟩
theorem z_xfree {pre wc post : va_W} {H : Heap} {locs : List Loc} (C : zC p s m args meth c cc nL rt own Ts D tys A H0) (hs : ws = pre ++ (wc ++ post)) (h2 : va_D A ws) (h3 : va_S A H0 H locs) : ∀ q, va_A wc H.size q → A q := by
  intro q hq
  rcases hq with ⟨j, e9, h⟩ | h
  · exact h2.2 (pre.length + j) (q, e9) (by rw [hs]; exact z_right (z_left h))
  · exact C.2.2.2.2.2.2.1 q (Nat.le_trans h3.1 h)
/-- a callee has returned -/
theorem z_xrunR {ret : Option Value} {wc wc' pre post : va_W} {a : Array Value} (C : zC p s m args meth c cc nL rt own Ts D tys A H0) (hs : ws = pre ++ (wc ++ post)) (hs' : pre ++ (wc' ++ post) = ws')
    (hrun : ∀ (H : Heap) (locs : List Loc) (ls : Array Slot), va_P D vwCl ws H → va_D A ws → va_S A H0 H locs → lv_has ls nL lv → vx_Run p l e R s m args below meth c H locs cells slots 0 0 (F0 m pc ls st0) st (zOQ D tys (.inr (ret, wc')) (va_A wc H.size) a) (zOX D tys wc (.inr (ret, wc')) (va_A wc H.size)) (va_A wc H.size))
    (k : zW p l e R s m args below meth c nL D A H0 cells slots Q ws' lv (pc + 3) (ret.toList ++ st)) : zW p l e R s m args below meth c nL D A H0 cells slots Q ws lv pc st0 := by
  intro H locs ls h1 h2 h3 h4 T hT X
  have hFc := z_xfree C hs h2 h3
  rcases hrun H locs ls h1 h2 h3 h4 T hT X with ⟨v, st₀, t, T', L, h0, X', hL, e1, e2, ⟨⟨hv, hP', hK', hD'⟩, hz, hk⟩, stp⟩ | ⟨q, st₀, t, T', L, E, ce, h0, X', hL, e1, e2, ⟨hf, -⟩, hrest⟩
  · cases hv
    rw [h0] at hz hk
    subst hs
    obtain ⟨g1, g2⟩ := z_join h1 h2 hk hFc hP' hD'
    dsimp only at g1 g2
    rw [hs'] at g1 g2
    obtain ⟨t2, a1, b1⟩ := k T'.heap (locs ++ L) ls (by rw [e1]; exact g1) g2
      ⟨Nat.le_trans h3.1 (by rw [e1]; exact hz), fun q w1 w2 => by rw [e1, hk q (Nat.lt_of_lt_of_le w1 h3.1) (fun z => w2 (hFc q z))]; exact h3.2.1 q w1 w2, fun q hq => by
        rcases List.mem_append.mp hq with h | h
        · exact h3.2.2 q h
        · exact hFc _ (hL q h)⟩ h4 T' rfl X'
    exact ⟨t2, stp t2 a1, b1⟩
  · exact hf.elim
/-- a callee has thrown: it goes on to the caller -/
theorem z_xrunT {E : String} {wc pre post : va_W} {a : Array Value} (C : zC p s m args meth c cc nL rt own Ts D tys A s.heap) (X9 : zXc s A c) (hs : ws = pre ++ (wc ++ post))
    (hrun : ∀ (H : Heap) (locs : List Loc) (ls : Array Slot), va_P D vwCl ws H → va_D A ws → va_S A s.heap H locs → lv_has ls nL lv → vx_Run p l e R s m args below meth c H locs 0 0 1 6 (F0 m pc ls st0) st (zOQ D tys (.inl E) (va_A wc H.size) a) (zOX D tys wc (.inl E) (va_A wc H.size)) (va_A wc H.size)) :
    zW p l e R s m args below meth c nL D A s.heap 0 0 (vx_MQ below (zOQ D tys (.inl E) A) (zOX D tys ws (.inl E) A) args s 1 6 A) ws lv pc st0 := by
  intro H locs ls h1 h2 h3 h4 T hT X
  have hFc := z_xfree C hs h2 h3
  rcases hrun H locs ls h1 h2 h3 h4 T hT X with ⟨v, st₀, t, T', L, h0, X', hL, e1, e2, ⟨hf, -⟩, stp⟩ | ⟨q, st₀, t, T', L, E9, ce, h0, X', hL, e1, e2, ⟨⟨hE, hP', hK', hD', hlt⟩, hz, hk⟩, hce, hcv, hcl, stp⟩
  · exact hf.elim
  · rw [h0] at hz hk hlt
    subst hE
    have hj := z_join (hs ▸ h1) (hs ▸ h2) hk hFc hP' hD'
    rw [← hs] at hj
    obtain ⟨t2, a1, b1⟩ := vx_out (pc := pc) (ls := ls) (rest := st) (XC := zOX D tys ws (.inl E9) A) (Qc := zOQ D tys (.inl E9) A) (free := A) (cells := 0 + 1) (slots := 0 + 6) (mc := 1) (ms := 6) (locs := locs ++ L) (H := T'.heap) (fun x hx => (X9.2 x hx).elim) C.2.2.2.2.2.2.2.1 (by rw [e1]; exact hce) hcv hcl
      (fun t9 ht9 hA9 => ⟨⟨rfl, by rw [ht9, e1]; exact hj.1, va_K.moved hA9 C.2.2.2.2.2.1, hj.2, by rw [ht9, e1]; exact Nat.lt_of_le_of_lt h3.1 hlt⟩, by rw [ht9, e1]; exact Nat.le_trans h3.1 hz, fun q g1 g2 => by rw [ht9, e1, hk q (Nat.lt_of_lt_of_le g1 h3.1) (fun z => g2 (hFc q z))]; exact h3.2.1 q g1 g2⟩)
      (fun q hq => by
        rcases List.mem_append.mp hq with h | h
        · exact h3.2.2 q h
        · exact hFc _ (hL q h)) (Nat.le_refl _) (Nat.le_refl _) T' rfl X'
    exact ⟨t2, stp.trans a1, b1⟩
theorem z_xpre {wc pre post : va_W} {H : Heap} {locs : List Loc} {b : Nat} {As : List Value} (C : zC p s m args meth c cc nL rt own Ts D tys A s.heap) (X : zE A s s.heap) (hs : ws = pre ++ (wc ++ post)) (h1 : va_P D vwCl ws H) (h2 : va_D A ws) (h3 : va_S A s.heap H locs) :
    ∀ U : State, U.heap = H → s.WarmedH U.vm → va_Pc As (fun U => U.heap.size = H.size ∧ va_P D vwCl wc U.heap ∧ va_K D vwCl tys U ∧ va_D (fun _ => True) wc ∧ zE (va_A wc H.size) U U.heap) As.toArray U := by
  intro U hU hW
  have hp := z_part (hs ▸ h1) (hs ▸ h2)
  exact ⟨rfl, by rw [hU], by rw [hU]; exact hp.1, va_K.moved hW.alike C.2.2.2.2.2.1, hp.2, zE_to X hW (fun q g1 g2 => by rw [hU]; exact h3.2.1 q g1 g2) (z_xfree C hs h2 h3)⟩
/-- calls of methods that may throw: R where it returned, T where it threw -/
theorem z_xcallV_R {y : MethodName} {wsy wsy' : List Cond} {fr lo : Nat} {bytes : ByteArray} {maxL index n : Nat} {rty : Option FieldType} {Cn : String} {b ci N : Nat} {As : List Value} {ret : Option Value} {wc wc' : va_W} {T : u_T} {fs : List Value}
    (C : zC p s m args meth c cc nL rt own Ts D tys A s.heap) (X : zE A s s.heap) (hM : zO l y wsy fr lo D tys (.ref b :: As) wc (.inr (ret, wc'))) (hG : GoodIn Ts (wsV own index Cn y wsy)) (hw : wsy = Cond.code y bytes maxL rty :: wsy')
    (hd' : y.cls = Cn ∧ y.cls ≠ "java/lang/invoke/MethodHandle" ∧ y.cls ≠ "java/lang/invoke/VarHandle" ∧ (parseMethodDescriptor y.desc).map (fun d => d.parameters.length) = some n)
    (hR : fr + 1 ≤ R.frames ∧ 8 + (maxL + 11) + lo ≤ R.locals) (hf : cells ≤ R.cells ∧ slots ≤ R.slots) (q0 : Nat) (he : ws[q0]? = some (b, .inr (ci, fs))) (hc : vwCl[ci]? = some (Cn, T, N))
    (pre post : va_W) (hs : ws = pre ++ (wc ++ post)) (hs' : pre ++ (wc' ++ post) = ws') (hst : st0 = As.reverse ++ .ref b :: st) (hn : As.length = n) (hroom : (st.map fun v => v.category).sum ≤ 8) (hdg : decode cc pc = .ok (.invokevirtual index, 3))
    (k : zW p l e R s m args below meth c nL D A s.heap cells slots Q ws' lv (pc + 3) (ret.toList ++ st)) : zW p l e R s m args below meth c nL D A s.heap cells slots Q ws lv pc st0 :=
  z_xrunR (a := (Value.ref b :: As).toArray) C hs hs' (fun H locs ls h1 h2 h3 h4 =>
    vx_runV (As := As) (rest := st) ⟨C.1, C.2.1, C.2.2.1, C.2.2.2.1, C.2.2.2.2.1⟩ (hM H.size) (cwV n C.2.2.2.2.1 hG hw rfl rfl hd' hR) ⟨z_xblind, va_recv C.2.2.2.2.2.1 h1 hc he, z_xpre (b := b) (As := .ref b :: As) C X hs h1 h2 h3⟩ rfl hn h4.1 hst (lv_room hroom) hdg hf) k
theorem z_xcallV_T {y : MethodName} {wsy wsy' : List Cond} {fr lo : Nat} {bytes : ByteArray} {maxL index n : Nat} {rty : Option FieldType} {Cn E : String} {b ci N : Nat} {As : List Value} {wc : va_W} {T : u_T} {fs : List Value}
    (C : zC p s m args meth c cc nL rt own Ts D tys A s.heap) (X : zXc s A c) (hM : zO l y wsy fr lo D tys (.ref b :: As) wc (.inl E)) (hG : GoodIn Ts (wsV own index Cn y wsy)) (hw : wsy = Cond.code y bytes maxL rty :: wsy')
    (hd' : y.cls = Cn ∧ y.cls ≠ "java/lang/invoke/MethodHandle" ∧ y.cls ≠ "java/lang/invoke/VarHandle" ∧ (parseMethodDescriptor y.desc).map (fun d => d.parameters.length) = some n)
    (hR : fr + 1 ≤ R.frames ∧ 8 + (maxL + 11) + lo ≤ R.locals) (hf : 1 ≤ R.cells ∧ 6 ≤ R.slots) (q0 : Nat) (he : ws[q0]? = some (b, .inr (ci, fs))) (hc : vwCl[ci]? = some (Cn, T, N))
    (pre post : va_W) (hs : ws = pre ++ (wc ++ post)) (hst : st0 = As.reverse ++ .ref b :: st) (hn : As.length = n) (hroom : (st.map fun v => v.category).sum ≤ 8) (hdg : decode cc pc = .ok (.invokevirtual index, 3)) :
    zW p l e R s m args below meth c nL D A s.heap 0 0 (vx_MQ below (zOQ D tys (.inl E) A) (zOX D tys ws (.inl E) A) args s 1 6 A) ws lv pc st0 :=
  z_xrunT (a := (Value.ref b :: As).toArray) (st := st) C X hs (fun H locs ls h1 h2 h3 h4 =>
    vx_runV (As := As) (rest := st) ⟨C.1, C.2.1, C.2.2.1, C.2.2.2.1, C.2.2.2.2.1⟩ (hM H.size) (cwV n C.2.2.2.2.1 hG hw rfl rfl hd' hR) ⟨z_xblind, va_recv C.2.2.2.2.2.1 h1 hc he, z_xpre (b := b) (As := .ref b :: As) C X.1 hs h1 h2 h3⟩ rfl hn h4.1 hst (lv_room hroom) hdg ⟨by rw [Nat.zero_add]; exact hf.1, by rw [Nat.zero_add]; exact hf.2⟩)
theorem z_xcallS_R {y : MethodName} {wsy wsy' : List Cond} {fr lo : Nat} {bytes : ByteArray} {maxL index n : Nat} {rty : Option FieldType} {As : List Value} {ret : Option Value}
    (C : zC p s m args meth c cc nL rt own Ts D tys A s.heap) (X : zE A s s.heap) (hM : zO l y wsy fr lo D tys As [] (.inr (ret, []))) (hG : GoodIn Ts (va_wsS own index y wsy)) (hw : wsy = Cond.code y bytes maxL rty :: wsy')
    (hd' : y.cls ≠ "java/lang/invoke/MethodHandle" ∧ y.cls ≠ "java/lang/invoke/VarHandle" ∧ (parseMethodDescriptor y.desc).map (fun d => d.parameters.length) = some n)
    (hR : fr + 1 ≤ R.frames ∧ 8 + (maxL + 11) + lo ≤ R.locals) (hf : cells ≤ R.cells ∧ slots ≤ R.slots)
    (hst : st0 = As.reverse ++ st) (hn : As.length = n) (hroom : (st.map fun v => v.category).sum ≤ 8) (hdg : decode cc pc = .ok (.invokestatic index, 3))
    (k : zW p l e R s m args below meth c nL D A s.heap cells slots Q ws lv (pc + 3) (ret.toList ++ st)) : zW p l e R s m args below meth c nL D A s.heap cells slots Q ws lv pc st0 :=
  z_xrunR (a := As.toArray) (wc := []) (wc' := []) (pre := ws) (post := []) C (by simp) (by simp) (fun H locs ls h1 h2 h3 h4 =>
    vx_runS (As := As) (rest := st) ⟨C.1, C.2.1, C.2.2.1, C.2.2.2.1, C.2.2.2.2.1⟩ (hM H.size) (va_cwS n C.2.2.2.2.1 hG hw rfl rfl hd' hR) ⟨z_xblind, z_xpre (b := 0) (As := As) (pre := ws) (post := []) C X (by simp) h1 h2 h3⟩ rfl hn h4.1 hst (lv_room hroom) hdg hf) k
theorem z_xcallS_T {y : MethodName} {wsy wsy' : List Cond} {fr lo : Nat} {bytes : ByteArray} {maxL index n : Nat} {rty : Option FieldType} {As : List Value} {E : String}
    (C : zC p s m args meth c cc nL rt own Ts D tys A s.heap) (X : zXc s A c) (hM : zO l y wsy fr lo D tys As [] (.inl E)) (hG : GoodIn Ts (va_wsS own index y wsy)) (hw : wsy = Cond.code y bytes maxL rty :: wsy')
    (hd' : y.cls ≠ "java/lang/invoke/MethodHandle" ∧ y.cls ≠ "java/lang/invoke/VarHandle" ∧ (parseMethodDescriptor y.desc).map (fun d => d.parameters.length) = some n)
    (hR : fr + 1 ≤ R.frames ∧ 8 + (maxL + 11) + lo ≤ R.locals) (hf : 1 ≤ R.cells ∧ 6 ≤ R.slots)
    (hst : st0 = As.reverse ++ st) (hn : As.length = n) (hroom : (st.map fun v => v.category).sum ≤ 8) (hdg : decode cc pc = .ok (.invokestatic index, 3)) :
    zW p l e R s m args below meth c nL D A s.heap 0 0 (vx_MQ below (zOQ D tys (.inl E) A) (zOX D tys ws (.inl E) A) args s 1 6 A) ws lv pc st0 :=
  z_xrunT (a := As.toArray) (wc := []) (pre := ws) (post := []) (st := st) C X (by simp) (fun H locs ls h1 h2 h3 h4 =>
    vx_runS (As := As) (rest := st) ⟨C.1, C.2.1, C.2.2.1, C.2.2.2.1, C.2.2.2.2.1⟩ (hM H.size) (va_cwS n C.2.2.2.2.1 hG hw rfl rfl hd' hR) ⟨z_xblind, z_xpre (b := 0) (As := As) (pre := ws) (post := []) C X.1 (by simp) h1 h2 h3⟩ rfl hn h4.1 hst (lv_room hroom) hdg ⟨by rw [Nat.zero_add]; exact hf.1, by rw [Nat.zero_add]; exact hf.2⟩)
end ZZ
