section ZZ
variable {p : Program} {l : Launch} {e : Env} {R : Room} {s : State} {m : MethodId} {args : Array Value} {below : List Frame} {meth : Method} {c : Code} {cells slots : Nat} {Q : State → Prop}
variable {cc : ByteArray} {nL : Nat} {rt : Option FieldType} {own : String} {Ts : List Cond} {D : va_G} {tys : List (ClassId × FieldType)} {A : Nat → Prop} {H0 : Heap}
variable {ws ws' : va_W} {lv lv' : List (Nat × Value)} {pc : Nat} {st st0 : List Value}
theorem z_lcmp {x y : Int64} (C : zC p s m args meth c cc nL rt own Ts D tys A H0) (hd : decode cc pc = .ok (.lcmp, 1)) (k : zW p l e R s m args below meth c nL D A H0 cells slots Q ws lv (pc + 1) (.int (lg_cmp x y) :: st)) : zW p l e R s m args below meth c nL D A H0 cells slots Q ws lv pc (.long y :: .long x :: st) :=
  fun H locs ls h1 h2 h3 h4 => W.lcmp C.1 C.2.1 hd (k H locs ls h1 h2 h3 h4)
theorem z_sld {b L : Nat} {xs : Nat → Int32} {i : Int32} (C : zC p s m args meth c cc nL rt own Ts D tys A s.heap) (hX : va_X b L xs s s.heap) (hbl : b < s.heap.size) (hbA : ¬ A b) (hin : vp_in i L) (hd : decode cc pc = .ok (.iaload, 1)) (k : zW p l e R s m args below meth c nL D A s.heap cells slots Q ws lv (pc + 1) (.int (xs i.toNatClampNeg) :: st)) : zW p l e R s m args below meth c nL D A s.heap cells slots Q ws lv pc (.int i :: .ref b :: st) :=
  fun H locs ls h1 h2 h3 h4 => va_sld C.1 C.2.1 hX hbl hbA h3 hin hd (k H locs ls h1 h2 h3 h4)
theorem z_slen {b L : Nat} {xs : Nat → Int32} (C : zC p s m args meth c cc nL rt own Ts D tys A s.heap) (hX : va_X b L xs s s.heap) (hbl : b < s.heap.size) (hbA : ¬ A b) (hd : decode cc pc = .ok (.arraylength, 1)) (k : zW p l e R s m args below meth c nL D A s.heap cells slots Q ws lv (pc + 1) (.int (Int32.ofNat L) :: st)) : zW p l e R s m args below meth c nL D A s.heap cells slots Q ws lv pc (.ref b :: st) :=
  fun H locs ls h1 h2 h3 h4 => va_slen C.1 C.2.1 hX hbl hbA h3 hd (k H locs ls h1 h2 h3 h4)
theorem z_topeq {x y : Int32} (h : x = y) (k : zW p l e R s m args below meth c nL D A H0 cells slots Q ws lv pc (.int y :: st)) : zW p l e R s m args below meth c nL D A H0 cells slots Q ws lv pc (.int x :: st) := h ▸ k
theorem z_tableIn {dflt lo hi : Int} {offs : Array Int} {len : Nat} {x : Int32} {off : Int} {tgt : Nat} (C : zC p s m args meth c cc nL rt own Ts D tys A H0) (hd : decode cc pc = .ok (.tableswitch dflt lo hi offs, len)) (h1 : ¬ x.toInt < lo) (h2 : ¬ hi < x.toInt) (ho : offs[(x.toInt - lo).toNat]? = some off) (ht : (pc : Int) + off = (tgt : Int)) (k : zW p l e R s m args below meth c nL D A H0 cells slots Q ws lv tgt st) : zW p l e R s m args below meth c nL D A H0 cells slots Q ws lv pc (.int x :: st) :=
  fun H locs ls g1 g2 g3 g4 => lv_tableIn C.1 C.2.1 hd h1 h2 ho ht (k H locs ls g1 g2 g3 g4)
theorem z_tableOut {dflt lo hi : Int} {offs : Array Int} {len : Nat} {x : Int32} {tgt : Nat} (C : zC p s m args meth c cc nL rt own Ts D tys A H0) (hd : decode cc pc = .ok (.tableswitch dflt lo hi offs, len)) (h : x.toInt < lo ∨ hi < x.toInt) (ht : (pc : Int) + dflt = (tgt : Int)) (k : zW p l e R s m args below meth c nL D A H0 cells slots Q ws lv tgt st) : zW p l e R s m args below meth c nL D A H0 cells slots Q ws lv pc (.int x :: st) :=
  fun H locs ls g1 g2 g3 g4 => lv_tableOut C.1 C.2.1 hd h ht (k H locs ls g1 g2 g3 g4)
/-- a call of one of the law's own methods: they always return, and may leave one new cell -/
theorem z_lcallS {y : MethodName} {wsy wsy' : List Cond} {fr lo : Nat} {bytes : ByteArray} {maxL index n : Nat} {rty : Option FieldType} {hh : List (Nat × Nat × Nat × Nat)} {As : List Value} {ret : Option Value} {wc wc' : va_W}
    (C : zC p s m args meth c cc nL rt own Ts D tys A s.heap) (XE : zE A s s.heap) (XN : zN s) (hM : zL l y wsy fr lo D tys As wc ret wc') (hG : GoodIn Ts (va_wsS own index y wsy)) (hw : wsy = Cond.codeWith y bytes maxL rty hh :: wsy')
    (hd' : y.cls ≠ "java/lang/invoke/MethodHandle" ∧ y.cls ≠ "java/lang/invoke/VarHandle" ∧ (parseMethodDescriptor y.desc).map (fun d => d.parameters.length) = some n)
    (hR : fr + 1 ≤ R.frames ∧ 8 + (maxL + 11) + lo ≤ R.locals) (hf : cells + 1 ≤ R.cells ∧ slots + 6 ≤ R.slots) (pre post : va_W) (hs : ws = pre ++ (wc ++ post)) (hs' : pre ++ (wc' ++ post) = ws') (hst : st0 = As.reverse ++ st) (hn : As.length = n) (hroom : (st.map fun v => v.category).sum ≤ 8) (hdg : decode cc pc = .ok (.invokestatic index, 3))
    (k : zW p l e R s m args below meth c nL D A s.heap (cells + 1) (slots + 6) Q ws' lv (pc + 3) (ret.toList ++ st)) : zW p l e R s m args below meth c nL D A s.heap cells slots Q ws lv pc st0 := by
  intro H locs ls h1 h2 h3 h4 T hT X
  have hFc := z_xfree C hs h2 h3
  have hp := z_part (hs ▸ h1) (hs ▸ h2)
  rcases vx_runSX (As := As) (rest := st) (g := F0 m pc ls st0) (locs := locs) (cells := cells) (slots := slots) ⟨C.1, C.2.1, C.2.2.1, C.2.2.2.1, C.2.2.2.2.1⟩ (hM H.size) (vx_cwSW n C.2.2.2.2.1 hG hw rfl rfl hd' hR)
    ⟨z_lblind, fun U hU hW => ⟨rfl, by rw [hU], by rw [hU]; exact hp.1, va_K.moved hW.alike C.2.2.2.2.2.1, hp.2, zE_to XE hW (fun q g1 g2 => by rw [hU]; exact h3.2.1 q g1 g2) hFc, zN.moved hW.alike XN⟩⟩ rfl hn h4.1 hst (lv_room (pc := pc) (ls := ls) (m := m) hroom) hdg hf T hT X with ⟨v, st₀, t, T', L, h9, X', hL, e1, e2, ⟨⟨hv, hP', hK', hD'⟩, hz, hk⟩, stp⟩ | ⟨q, st₀, t, T', L, E, ce, h9, X', hL, e1, e2, hf9, hrest⟩
  · cases hv
    rw [h9] at hz hk
    subst hs
    obtain ⟨g1, g2⟩ := z_join h1 h2 hk hFc hP' hD'
    rw [hs'] at g1 g2
    obtain ⟨t2, a1, b1⟩ := k T'.heap (locs ++ L) ls (by rw [e1]; exact g1) g2
      ⟨Nat.le_trans h3.1 (by rw [e1]; exact hz), fun q w1 w2 => by rw [e1, hk q (Nat.lt_of_lt_of_le w1 h3.1) (fun z => w2 (hFc q z))]; exact h3.2.1 q w1 w2, fun q hq => by
        rcases List.mem_append.mp hq with h | h
        · exact h3.2.2 q h
        · exact hFc _ (hL q h)⟩ h4 T' rfl X'
    exact ⟨t2, stp t2 a1, b1⟩
  · exact hf9.elim
end ZZ
theorem zAs1 {a b c : va_W} : a ++ (b ++ c) = [] ++ ((a ++ b) ++ c) := (List.append_assoc a b c).symm
theorem zAs2 {a b c : va_W} : [] ++ ((a ++ b) ++ c) = a ++ (b ++ c) := List.append_assoc a b c
theorem zAs3 {a b c : va_W} : a ++ (b ++ c) = (a ++ b) ++ (c ++ []) := by rw [List.append_nil, List.append_assoc]
theorem zAs4 {a b c : va_W} : (a ++ b) ++ (c ++ []) = a ++ (b ++ c) := by rw [List.append_nil, List.append_assoc]
