section
-- ===== PART A: goes FIRST, ahead of the names: the tables' words, and 'selects' of the private methods out of them =====
/-- a private method of a class that the tables say can be made, by its rows of tables_1 -/
def lw_okq (q : MethodName × Nat) : Prop := (q.1.cls ≠ "java/lang/invoke/MethodHandle" ∧ q.1.cls ≠ "java/lang/invoke/VarHandle") ∧ Cond.instantiable q.1.cls q.2 ∈ tables_1 ∧ Cond.privateMethod q.1 ∈ tables_1 ∧ Cond.instanceMethod q.1 ∈ tables_1
theorem lw_p0 : lw_okq (⟨"java/lang/Throwable", "fillInStackTrace", "(I)Ljava/lang/Throwable;"⟩, 6) := ⟨⟨by decide +kernel, by decide +kernel⟩, List.mem_of_getElem? (i := 228) (by decide +kernel), List.mem_of_getElem? (i := 226) (by decide +kernel), List.mem_of_getElem? (i := 227) (by decide +kernel)⟩
theorem lw_p1 : lw_okq (⟨"SecretBroker", "checkPolicy", "(I)V"⟩, 6) := ⟨⟨by decide +kernel, by decide +kernel⟩, List.mem_of_getElem? (i := 17) (by decide +kernel), List.mem_of_getElem? (i := 266) (by decide +kernel), List.mem_of_getElem? (i := 267) (by decide +kernel)⟩
theorem lw_p2 : lw_okq (⟨"SecretBroker$Policies", "addRule", "(I)I"⟩, 5) := ⟨⟨by decide +kernel, by decide +kernel⟩, List.mem_of_getElem? (i := 25) (by decide +kernel), List.mem_of_getElem? (i := 333) (by decide +kernel), List.mem_of_getElem? (i := 334) (by decide +kernel)⟩
theorem lw_p3 : lw_okq (⟨"SecretBroker", "checkToken", "(I)V"⟩, 6) := ⟨⟨by decide +kernel, by decide +kernel⟩, List.mem_of_getElem? (i := 17) (by decide +kernel), List.mem_of_getElem? (i := 369) (by decide +kernel), List.mem_of_getElem? (i := 370) (by decide +kernel)⟩
theorem lw_p4 : lw_okq (⟨"SecretBroker", "mayHand", "(II)Z"⟩, 6) := ⟨⟨by decide +kernel, by decide +kernel⟩, List.mem_of_getElem? (i := 17) (by decide +kernel), List.mem_of_getElem? (i := 375) (by decide +kernel), List.mem_of_getElem? (i := 376) (by decide +kernel)⟩
theorem lw_p5 : lw_okq (⟨"SecretBroker", "checkAliveToken", "(I)V"⟩, 6) := ⟨⟨by decide +kernel, by decide +kernel⟩, List.mem_of_getElem? (i := 17) (by decide +kernel), List.mem_of_getElem? (i := 388) (by decide +kernel), List.mem_of_getElem? (i := 389) (by decide +kernel)⟩
theorem lw_p6 : lw_okq (⟨"SecretBroker", "checkEndingToken", "(I)V"⟩, 6) := ⟨⟨by decide +kernel, by decide +kernel⟩, List.mem_of_getElem? (i := 17) (by decide +kernel), List.mem_of_getElem? (i := 429) (by decide +kernel), List.mem_of_getElem? (i := 430) (by decide +kernel)⟩
theorem lw_p7 : lw_okq (⟨"SecretBroker", "endToken", "(I)I"⟩, 6) := ⟨⟨by decide +kernel, by decide +kernel⟩, List.mem_of_getElem? (i := 17) (by decide +kernel), List.mem_of_getElem? (i := 456) (by decide +kernel), List.mem_of_getElem? (i := 457) (by decide +kernel)⟩
theorem lw_p8 : lw_okq (⟨"SecretBroker", "endWhatHungOnTokens", "()I"⟩, 6) := ⟨⟨by decide +kernel, by decide +kernel⟩, List.mem_of_getElem? (i := 17) (by decide +kernel), List.mem_of_getElem? (i := 467) (by decide +kernel), List.mem_of_getElem? (i := 468) (by decide +kernel)⟩
theorem lw_p9 : lw_okq (⟨"SecretBroker", "capabilitiesAt", "(II)I"⟩, 6) := ⟨⟨by decide +kernel, by decide +kernel⟩, List.mem_of_getElem? (i := 17) (by decide +kernel), List.mem_of_getElem? (i := 506) (by decide +kernel), List.mem_of_getElem? (i := 507) (by decide +kernel)⟩
theorem lw_p10 : lw_okq (⟨"SecretBroker$Policies", "decided", "(II)I"⟩, 5) := ⟨⟨by decide +kernel, by decide +kernel⟩, List.mem_of_getElem? (i := 25) (by decide +kernel), List.mem_of_getElem? (i := 514) (by decide +kernel), List.mem_of_getElem? (i := 515) (by decide +kernel)⟩
theorem lw_p11 : lw_okq (⟨"SecretBroker$Policies", "goesAhead", "(II)Z"⟩, 5) := ⟨⟨by decide +kernel, by decide +kernel⟩, List.mem_of_getElem? (i := 25) (by decide +kernel), List.mem_of_getElem? (i := 527) (by decide +kernel), List.mem_of_getElem? (i := 528) (by decide +kernel)⟩
theorem lw_p12 : lw_okq (⟨"SecretBroker", "reasonAgainst", "(II)I"⟩, 6) := ⟨⟨by decide +kernel, by decide +kernel⟩, List.mem_of_getElem? (i := 17) (by decide +kernel), List.mem_of_getElem? (i := 536) (by decide +kernel), List.mem_of_getElem? (i := 537) (by decide +kernel)⟩
theorem lw_p13 : lw_okq (⟨"SecretBroker", "give", "(II)I"⟩, 6) := ⟨⟨by decide +kernel, by decide +kernel⟩, List.mem_of_getElem? (i := 17) (by decide +kernel), List.mem_of_getElem? (i := 562) (by decide +kernel), List.mem_of_getElem? (i := 563) (by decide +kernel)⟩
theorem lw_p14 : lw_okq (⟨"SecretBroker$Mounts", "has", "(I)Z"⟩, 4) := ⟨⟨by decide +kernel, by decide +kernel⟩, List.mem_of_getElem? (i := 49) (by decide +kernel), List.mem_of_getElem? (i := 570) (by decide +kernel), List.mem_of_getElem? (i := 571) (by decide +kernel)⟩
theorem lw_p15 : lw_okq (⟨"SecretBroker", "checkCredential", "(I)V"⟩, 6) := ⟨⟨by decide +kernel, by decide +kernel⟩, List.mem_of_getElem? (i := 17) (by decide +kernel), List.mem_of_getElem? (i := 596) (by decide +kernel), List.mem_of_getElem? (i := 597) (by decide +kernel)⟩
def lw_privs_1 : List (MethodName × Nat) := [(⟨"java/lang/Throwable", "fillInStackTrace", "(I)Ljava/lang/Throwable;"⟩, 6), (⟨"SecretBroker", "checkPolicy", "(I)V"⟩, 6), (⟨"SecretBroker$Policies", "addRule", "(I)I"⟩, 5), (⟨"SecretBroker", "checkToken", "(I)V"⟩, 6), (⟨"SecretBroker", "mayHand", "(II)Z"⟩, 6), (⟨"SecretBroker", "checkAliveToken", "(I)V"⟩, 6), (⟨"SecretBroker", "checkEndingToken", "(I)V"⟩, 6), (⟨"SecretBroker", "endToken", "(I)I"⟩, 6), (⟨"SecretBroker", "endWhatHungOnTokens", "()I"⟩, 6), (⟨"SecretBroker", "capabilitiesAt", "(II)I"⟩, 6), (⟨"SecretBroker$Policies", "decided", "(II)I"⟩, 5), (⟨"SecretBroker$Policies", "goesAhead", "(II)Z"⟩, 5), (⟨"SecretBroker", "reasonAgainst", "(II)I"⟩, 6), (⟨"SecretBroker", "give", "(II)I"⟩, 6), (⟨"SecretBroker$Mounts", "has", "(I)Z"⟩, 4), (⟨"SecretBroker", "checkCredential", "(I)V"⟩, 6)]
theorem lw_r1 : ∀ q ∈ lw_privs_1, lw_okq q := List.forall_mem_cons.mpr ⟨lw_p0, List.forall_mem_cons.mpr ⟨lw_p1, List.forall_mem_cons.mpr ⟨lw_p2, List.forall_mem_cons.mpr ⟨lw_p3, List.forall_mem_cons.mpr ⟨lw_p4, List.forall_mem_cons.mpr ⟨lw_p5, List.forall_mem_cons.mpr ⟨lw_p6, List.forall_mem_cons.mpr ⟨lw_p7, List.forall_mem_cons.mpr ⟨lw_p8, List.forall_mem_cons.mpr ⟨lw_p9, List.forall_mem_cons.mpr ⟨lw_p10, List.forall_mem_cons.mpr ⟨lw_p11, List.forall_mem_cons.mpr ⟨lw_p12, List.forall_mem_cons.mpr ⟨lw_p13, List.forall_mem_cons.mpr ⟨lw_p14, List.forall_mem_cons.mpr ⟨lw_p15, fun _ h => absurd h List.not_mem_nil⟩⟩⟩⟩⟩⟩⟩⟩⟩⟩⟩⟩⟩⟩⟩⟩
theorem lw_p16 : lw_okq (⟨"SecretBroker", "checkEntry", "(I)V"⟩, 6) := ⟨⟨by decide +kernel, by decide +kernel⟩, List.mem_of_getElem? (i := 17) (by decide +kernel), List.mem_of_getElem? (i := 704) (by decide +kernel), List.mem_of_getElem? (i := 705) (by decide +kernel)⟩
theorem lw_p17 : lw_okq (⟨"SecretBroker$Tokens", "hangsBelow", "(II)Z"⟩, 9) := ⟨⟨by decide +kernel, by decide +kernel⟩, List.mem_of_getElem? (i := 68) (by decide +kernel), List.mem_of_getElem? (i := 790) (by decide +kernel), List.mem_of_getElem? (i := 791) (by decide +kernel)⟩
def lw_privs_2 : List (MethodName × Nat) := [(⟨"SecretBroker", "checkEntry", "(I)V"⟩, 6), (⟨"SecretBroker$Tokens", "hangsBelow", "(II)Z"⟩, 9)]
theorem lw_r2 : ∀ q ∈ lw_privs_2, lw_okq q := List.forall_mem_cons.mpr ⟨lw_p16, List.forall_mem_cons.mpr ⟨lw_p17, fun _ h => absurd h List.not_mem_nil⟩⟩
def lw_privs : List (MethodName × Nat) := lw_privs_1 ++ (lw_privs_2)
def lw_tbl : List Cond := k2_sels lw_privs ++ tables_1
theorem lw_privs_ok : ∀ q ∈ lw_privs, lw_okq q := by
  show ∀ q ∈ lw_privs_1 ++ (lw_privs_2), lw_okq q
  exact List.forall_mem_append.mpr ⟨lw_r1, lw_r2⟩
end
section
/-! ===== BEGIN words of one list among another's, by their places ===== -/
theorem goodIn_r {big : List Cond} (ws : List Cond) (ps : List Nat) (hp : ws = ps.filterMap (fun i => big[i]?)) (h : ws.all goodWord = true) : GoodIn big ws := by
  intro w hw
  have h1 := List.all_eq_true.mp h w hw
  rw [hp] at hw
  obtain ⟨i, -, hi⟩ := List.mem_filterMap.mp hw
  have hm : w ∈ big := by first | exact List.mem_of_getElem? hi | exact List.getElem?_mem hi
  exact ⟨hm, good_of_word h1⟩
theorem goodIn_app {big a b : List Cond} (ha : GoodIn big a) (hb : GoodIn big b) : GoodIn big (a ++ b) := fun w h => (List.mem_append.mp h).elim (ha w) (hb w)
theorem goodIn_ca {big a b : List Cond} {c : Cond} (ha : GoodIn big (c :: a)) (hb : GoodIn big b) : GoodIn big (c :: (a ++ b)) := fun w h => (List.mem_cons.mp h).elim (fun e => ha w (List.mem_cons.mpr (Or.inl e))) (fun h => (List.mem_append.mp h).elim (fun h => ha w (List.mem_cons.mpr (Or.inr h))) (hb w))
theorem goodIn_sub {big ws : List Cond} (hm : ∀ w ∈ ws, w ∈ big) (h : ws.all goodWord = true) : GoodIn big ws := fun w hw => ⟨hm w hw, good_of_word (List.all_eq_true.mp h w hw)⟩
/-! ===== END ===== -/

/-! ===== BEGIN exceptions that leave a method, and their catching by the caller (launches without stack traces) ===== -/
section VXA
/-! The laws vx_back, vx_callV, vx_callS, vx_callSW, vx_throw0, vx_throwS follow proofs of the library, with one case more: JvmDerived/Free/Laws.lean (Back.of_free), Shelf42/LK1.lean (callV, callS), Shelf/KitTraced.lean (throwNew0V, throwNewS). -/
/-- where a method has thrown q: the class by its name, the cell, what was written, the world -/
def vx_T (XC : String → State → State → Prop) (st : State) (q : Addr) (t : State) (mc ms : Nat) (free : Addr → Prop) : Prop :=
  ∃ (E : String) (ce : Cell) (L : List Loc), XC E st t ∧ t.heap[q]? = some ce ∧ ce.vm = .none ∧ st.vm.findClass E = some ce.cls ∧ st.WarmedH t.vm ∧ st.sameButNew ({ t with vm := st.vm } : State) L mc ms ∧ ∀ z ∈ L, free z.base
def vx_Q (Qc : Array Value → State → Outcome → State → Prop) (XC : String → State → State → Prop) (mc ms : Nat) (free : Addr → Prop) : Array Value → State → Outcome → State → Prop := fun a st o t =>
  (Qc a st o t ∧ ∃ L, FrameEnd st o t L mc ms ∧ ∀ q ∈ L, free q.base) ∨ ∃ q, o = .threw q ∧ vx_T XC st q t mc ms free
/-- a callee that returns or throws -/
def vx_Met (l : Launch) (y : MethodName) (ws : List Cond) (rm : Room) (Pc : Array Value → State → Prop) (Qc : Array Value → State → Outcome → State → Prop) (XC : String → State → State → Prop) (mc ms : Nat) (free : Addr → Prop) : Prop :=
  MetFree l y (headSpec ws rm) Pc (fun _ _ _ _ _ => True) (vx_Q Qc XC mc ms free)
def vx_Post (XC : String → State → State → Prop) (mc ms : Nat) (free : Addr → Prop) : Pt → Array Value → Addr → Pt → Prop := fun A a q B =>
  ∃ (g : JFrame) (mk : MethodId) (t : State) (L : List Loc) (E : String) (ce : Cell), B.U.heap = t.heap ∧ B.U.vm = t.vm ∧ XC E (A.U.calling g mk a) t ∧ t.heap[q]? = some ce ∧ ce.vm = .none ∧ A.U.vm.findClass E = some ce.cls ∧ B.locs = A.locs ++ L ∧ (∀ z ∈ L, free z.base) ∧ B.cells = A.cells + mc ∧ B.slots = A.slots + ms
def vx_Back (l : Launch) (R : Room) (p : Program) (e : Env) (below : List Frame) (s : State) (sargs : Array Value) (y : MethodName) (len W9 : Nat)
    (Pre : Pt → Array Value → Prop) (Post : Pt → Array Value → Option Value → Pt → Prop) (PostX : Pt → Array Value → Addr → Pt → Prop) : Prop :=
  ∀ (m : MethodId) (meth : Method) (c : Code) (A : Pt) (g : JFrame) (ig : Instr) (mk : MethodId) (a : Array Value),
    Stand p l e R s m sargs below meth c A.U A.locs A.cells A.slots → g.method = m → g.locals.size = c.maxLocals → decode c.code g.pc = .ok (ig, len) →
    2 * g.monitorRoom + (g.stack.map fun v => v.category).sum ≤ W9 → A.U.methodNamed? y = some mk → Pre A a →
    (∃ (v : Option Value) (B : Pt), Stand p l e R s m sargs below meth c B.U B.locs B.cells B.slots ∧ Post A a v B ∧
      Steps p.tables e below (doInvoke e (A.U.setTop g) [] mk a).1 (B.U.setTop { g with pc := g.pc + len, stack := v.toList ++ g.stack })) ∨
    (∃ (q : Addr) (B : Pt), Stand p l e R s m sargs below meth c B.U B.locs B.cells B.slots ∧ PostX A a q B ∧
      Steps p.tables e below (doInvoke e (A.U.setTop g) [] mk a).1 ((B.U.setTop g).pushFrame (.throwing q)))
section Payer
variable {l : Launch} {R : Room} {p : Program} {e : Env} {below : List Frame} {s : State} {sargs : Array Value} {y : MethodName} {len W9 : Nat}
theorem vx_back {ws : List Cond} {rm : Room} {Pc : Array Value → State → Prop} {Qc : Array Value → State → Outcome → State → Prop} {XC : String → State → State → Prop} {mc ms : Nat} {free : Addr → Prop} {bytes : ByteArray} {maxL : Nat} {ret : Option FieldType}
    (hM : vx_Met l y ws rm Pc Qc XC mc ms free) (hblind : FrameBlind Pc) (hrc : rm.cells = mc) (hrs : rm.slots = ms)
    (hframes : rm.frames + 1 ≤ R.frames) (hlocals : W9 + (maxL + 11) + rm.locals ≤ R.locals)
    (hws : ∀ w ∈ ws, ∀ a' U, s.WarmedH U.vm → w.before a' U = true) (hcode : Cond.code y bytes maxL ret ∈ ws) (hinit : ∀ a' U, s.WarmedH U.vm → (Cond.initialized y.cls).before a' U = true) :
    vx_Back l R p e below s sargs y len W9 (PreOf R mc ms Pc) (PostOf Qc mc ms free) (vx_Post XC mc ms free) := by
  intro m meth c A g ig mk a X hg hsize hdg hW hn hp
  have h1 : (headSpec ws rm).pre.before a A.U = true := atoms_intro fun w hw => hws w hw _ _ X.warmed
  have h2 : (Cond.code y bytes maxL ret).before a A.U = true := hws _ hcode _ _ X.warmed
  have h3 : (Cond.initialized y.cls).before a A.U = true := hinit _ _ X.warmed
  have h4 : A.cells + (headSpec ws rm).room.cells ≤ R.cells := by rw [show (headSpec ws rm).room.cells = mc from hrc]; exact hp.1
  have h5 : A.slots + (headSpec ws rm).room.slots ≤ R.slots := by rw [show (headSpec ws rm).room.slots = ms from hrs]; exact hp.2.1
  have hPc : Pc a (A.U.calling g mk a) := hblind _ _ _ _ hp.2.2
  obtain ⟨U, Ls, c0, s0⟩ := A
  dsimp only [Pt.U, Pt.locs, Pt.cells, Pt.slots] at h1 h2 h3 h4 h5 X hn hPc ⊢
  obtain ⟨methY, cY, hmY, hcY, -, hlY, -, -, -, -⟩ := Cond.code_spec hn h2
  obtain ⟨kY, hkY, -⟩ := className_of_methodNamed hn
  have hinitY : kY.init = .initialized := Cond.initialized_spec (findClass_of_methodNamed hn) hkY h3
  have h : At U g.method c below := by rw [hg]; exact X.here
  have hlocals9 : W9 + (maxL + 11) + (headSpec ws rm).room.locals ≤ R.locals := hlocals
  have happ : (headSpec ws rm).appliesLoose y e.platform (U.calling g mk a) = true :=
    Spec.appliesLoose_calling (g := g) h hdg hn hkY hinitY
      (X.room_calling (g := g) (R' := (headSpec ws rm).room) hsize hmY hcY hframes (by rw [hlY]; omega) h4 h5) h1
  obtain ⟨mid, hmid⟩ := h.above
  have hfr : (U.setTop g).frames = (.java g :: mid) ++ below := by rw [State.frames_setTop' g h.top, hmid]; rfl
  obtain ⟨o, s₂, hsteps, -, hend, hq⟩ := Steps.callFree hM p X.admits X.cas X.clock (acts := []) hfr happ hPc trivial
  have hq' : vx_Q Qc XC mc ms free a (U.calling g mk a) o s₂ := hq
  rw [State.frames_setTop' g h.top] at hend
  obtain ⟨g₀, hg0⟩ := Option.isSome_iff_exists.mp h.top
  obtain ⟨r, hr⟩ := State.topJava?_eq_some.mp hg0
  have hr' : (({ U with heap := s₂.heap, slotsUsed := s₂.slotsUsed } : State).setVm s₂.vm).frames = .java g₀ :: r := hr
  rcases hq' with ⟨hqc, L, hfe, hL⟩ | ⟨q, rfl, E, ce, L, hx, hce, hcv, hcl, hW₂, hsm, hL⟩
  · obtain ⟨⟨v, rfl⟩, hW₂, e2, q2, q3, q4, q5, q6⟩ := id hfe
    have e3 : s₂ = ({ (U.calling g mk a).setFrames s₂.frames with heap := s₂.heap, slotsUsed := s₂.slotsUsed } : State).setVm s₂.vm := by
      have : s₂ = ({ s₂ with vm := (U.calling g mk a).vm } : State).setVm s₂.vm := rfl
      rw [e2] at this
      exact this
    obtain ⟨c₂, i₂, len₂, hc₂, hd₂, hf₂⟩ := hend
    have hW' : U.WarmedH s₂.vm := hW₂
    have hcc : c₂ = c := by
      have h1 : s₂.code? g.method = U.code? g.method := by
        rw [State.code?_eq, State.code?_eq, hW'.alike.method?]
      exact Option.some.inj (hc₂.symm.trans (h1.trans h.code))
    subst hcc
    have hlen : len₂ = len := by rw [hdg] at hd₂; cases hd₂; rfl
    subst hlen
    have hs₂ : s₂ = (({ U with heap := s₂.heap, slotsUsed := s₂.slotsUsed } : State).setVm s₂.vm).setTop { g with pc := g.pc + len₂, stack := v.toList ++ g.stack } := by
      refine e3.trans ?_
      rw [hf₂, State.calling_eq h.top, State.setFrames_setFrames, State.setTop_of_frames _ hr', hr]
      rfl
    have hsame : U.sameButNew ({ U with heap := s₂.heap, slotsUsed := s₂.slotsUsed } : State) L mc ms := by
      refine ⟨?_, q2, q3, q4, q5, q6⟩
      obtain ⟨t, ht, -⟩ := State.frames_cons hr
      show ({ U with heap := s₂.heap, slotsUsed := s₂.slotsUsed } : State) = { U.setFrames U.frames with heap := s₂.heap, slotsUsed := s₂.slotsUsed }
      rw [State.setFrames_self ht]
    subst hg
    refine Or.inl ⟨v, ⟨(({ U with heap := s₂.heap, slotsUsed := s₂.slotsUsed } : State).setVm s₂.vm), Ls ++ L, c0 + mc, s0 + ms⟩,
      ⟨X.admits, X.cas, X.clock, X.frames, X.room, X.hears, X.method, X.code, (X.here.setHeapUsed s₂.heap s₂.slotsUsed).setVm hW'.alike, X.tail, State.WarmedH.trans X.warmed hW', X.limits, X.bytes, X.same.trans (hsame.setVm s.vm)⟩,
      ⟨g, mk, s₂, L, rfl, rfl, hqc, rfl, hL, rfl, rfl⟩, ?_⟩
    show Steps p.tables e below _ ((({ U with heap := s₂.heap, slotsUsed := s₂.slotsUsed } : State).setVm s₂.vm).setTop { g with pc := g.pc + len₂, stack := v.toList ++ g.stack })
    rw [← hs₂]
    exact hsteps
  · obtain ⟨e2, q2, q3, q4, q5, q6⟩ := id hsm
    have e3 : s₂ = ({ (U.calling g mk a).setFrames s₂.frames with heap := s₂.heap, slotsUsed := s₂.slotsUsed } : State).setVm s₂.vm := by
      have : s₂ = ({ s₂ with vm := (U.calling g mk a).vm } : State).setVm s₂.vm := rfl
      rw [e2] at this
      exact this
    have hf₂ : s₂.frames = .throwing q :: .java g :: U.frames.tail := hend
    have hW' : U.WarmedH s₂.vm := hW₂
    have hs₂ : s₂ = ((({ U with heap := s₂.heap, slotsUsed := s₂.slotsUsed } : State).setVm s₂.vm).setTop g).pushFrame (.throwing q) := by
      refine e3.trans ?_
      rw [hf₂, State.calling_eq h.top, State.setFrames_setFrames, State.pushFrame, State.frames_setTop _ hr', State.setTop_of_frames _ hr', State.setFrames_setFrames, hr]
      rfl
    have hsame : U.sameButNew ({ U with heap := s₂.heap, slotsUsed := s₂.slotsUsed } : State) L mc ms := by
      refine ⟨?_, q2, q3, q4, q5, q6⟩
      obtain ⟨t, ht, -⟩ := State.frames_cons hr
      show ({ U with heap := s₂.heap, slotsUsed := s₂.slotsUsed } : State) = { U.setFrames U.frames with heap := s₂.heap, slotsUsed := s₂.slotsUsed }
      rw [State.setFrames_self ht]
    subst hg
    refine Or.inr ⟨q, ⟨(({ U with heap := s₂.heap, slotsUsed := s₂.slotsUsed } : State).setVm s₂.vm), Ls ++ L, c0 + mc, s0 + ms⟩,
      ⟨X.admits, X.cas, X.clock, X.frames, X.room, X.hears, X.method, X.code, (X.here.setHeapUsed s₂.heap s₂.slotsUsed).setVm hW'.alike, X.tail, State.WarmedH.trans X.warmed hW', X.limits, X.bytes, X.same.trans (hsame.setVm s.vm)⟩,
      ⟨g, mk, s₂, L, E, ce, rfl, rfl, hx, hce, hcv, hcl, rfl, hL, rfl, rfl⟩, ?_⟩
    show Steps p.tables e below _ (((({ U with heap := s₂.heap, slotsUsed := s₂.slotsUsed } : State).setVm s₂.vm).setTop g).pushFrame (.throwing q))
    rw [← hs₂]
    exact hsteps
end Payer
section Calls
variable {p : Program} {l : Launch} {e : Env} {R : Room} {s : State} {m : MethodId} {args : Array Value} {below : List Frame} {meth : Method} {c : Code} {T : State} {locs : List Loc} {cells slots : Nat}
theorem vx_callV (X : Stand p l e R s m args below meth c T locs cells slots) (hexec : p.tables.exec = Jvm.exec) {own C : String} {index : Nat} {y : MethodName} {bytes : ByteArray} {maxL : Nat} {ret : Option FieldType}
    (hown : s.vm.findClass own = some m.cls) (hlink : (Cond.methodLink own index y).before args s = true) (hinst : (Cond.instanceMethod y).before args s = true) (hsel : (Cond.selects C y y).before args s = true)
    (hcode : (Cond.code y bytes maxL ret).before args s = true) (hy : y.cls ≠ "java/lang/invoke/MethodHandle" ∧ y.cls ≠ "java/lang/invoke/VarHandle")
    {W9 : Nat} {Pre : Pt → Array Value → Prop} {Post : Pt → Array Value → Option Value → Pt → Prop} {PostX : Pt → Array Value → Addr → Pt → Prop} (hK : vx_Back l R p e below s args y 3 W9 Pre Post PostX)
    {b : Addr} {cellB : Cell} (hcell : T.heap[b]? = some cellB) (hobj : cellB.vm.isStatics = false) (hcls : s.vm.findClass C = some cellB.cls)
    {g : JFrame} (hg : g.method = m) (hsize : g.locals.size = c.maxLocals) {argsL rest : List Value} (hlen : ∀ sig, parseMethodDescriptor y.desc = some sig → argsL.length = sig.parameters.length)
    (hstack : g.stack = argsL.reverse ++ .ref b :: rest) (hW : 2 * g.monitorRoom + (rest.map fun v => v.category).sum ≤ W9) (hdg : decode c.code g.pc = .ok (.invokevirtual index, 3))
    (hpre : ∀ vm₁, s.WarmedH vm₁ → Pre ⟨T.setVm vm₁, locs, cells, slots⟩ (Value.ref b :: argsL).toArray) :
    (∃ (v : Option Value) (vm₁ : Vm) (B : Pt), s.WarmedH vm₁ ∧ Stand p l e R s m args below meth c B.U B.locs B.cells B.slots ∧ Post ⟨T.setVm vm₁, locs, cells, slots⟩ (Value.ref b :: argsL).toArray v B ∧
      ∀ target, Steps p.tables e below (B.U.setTop { g with pc := g.pc + 3, stack := v.toList ++ rest }) target → Steps p.tables e below (T.setTop g) target) ∨
    (∃ (q : Addr) (vm₁ : Vm) (B : Pt), s.WarmedH vm₁ ∧ Stand p l e R s m args below meth c B.U B.locs B.cells B.slots ∧ PostX ⟨T.setVm vm₁, locs, cells, slots⟩ (Value.ref b :: argsL).toArray q B ∧
      Steps p.tables e below (T.setTop g) ((B.U.setTop { g with stack := rest }).pushFrame (.throwing q))) := by
  obtain ⟨mk, methM, hnamed, hmethM, hstM, habM⟩ := Cond.instanceMethod_spec hinst
  obtain ⟨methM', cM, hmethM', -, -, -, -, -, -, hsigM⟩ := Cond.code_spec hnamed hcode
  cases hmethM.symm.trans hmethM'
  obtain ⟨c2, r2, m2, q1, q2, q3, q4, kP, hkP, hkPi⟩ := Cond.selects_spec hsel
  cases hcls.symm.trans q1
  cases (State.methodFound?_of_named hnamed hy).symm.trans q2
  cases hnamed.symm.trans q3
  have hselP : selectMethod e.platform s.vm cellB.cls mk = .method mk := by rw [Launch.admits_selectMethod X.admits]; exact q4
  obtain ⟨vm₁, X₁, hstep₁⟩ := X.invokevirtual hexec hown hlink hnamed hmethM hstM hkP hkPi hy (a := b) (cell := cellB) hcell
    (fun z h => by rw [h] at hobj; cases hobj) hselP hmethM habM hkP hkPi (g := g) hg (argsL := argsL) (rest := rest) (hlen _ hsigM) hstack hdg
  rcases hK m meth c ⟨T.setVm vm₁, locs, cells, slots⟩ { g with stack := rest } (.invokevirtual index) mk (Value.ref b :: argsL).toArray X₁ hg hsize hdg hW (X₁.named hnamed) (hpre vm₁ X₁.warmed) with ⟨v, B, X', hpost, hsteps⟩ | ⟨q, B, X', hpost, hsteps⟩
  · exact Or.inl ⟨v, vm₁, B, X₁.warmed, X', hpost, fun target h => hstep₁ _ fun acts => by rw [doInvoke_state]; exact hsteps.trans h⟩
  · exact Or.inr ⟨q, vm₁, B, X₁.warmed, X', hpost, hstep₁ _ fun acts => by rw [doInvoke_state]; exact hsteps⟩
theorem vx_callS (X : Stand p l e R s m args below meth c T locs cells slots) (hexec : p.tables.exec = Jvm.exec) {own : String} {index : Nat} {y : MethodName} {bytes : ByteArray} {maxL : Nat} {ret : Option FieldType}
    (hown : s.vm.findClass own = some m.cls) (hlink : (Cond.methodLink own index y).before args s = true) (hstat : (Cond.static y).before args s = true) (hinit : (Cond.initialized y.cls).before args s = true)
    (hcode : (Cond.code y bytes maxL ret).before args s = true) (hy : y.cls ≠ "java/lang/invoke/MethodHandle" ∧ y.cls ≠ "java/lang/invoke/VarHandle")
    {W9 : Nat} {Pre : Pt → Array Value → Prop} {Post : Pt → Array Value → Option Value → Pt → Prop} {PostX : Pt → Array Value → Addr → Pt → Prop} (hK : vx_Back l R p e below s args y 3 W9 Pre Post PostX)
    {g : JFrame} (hg : g.method = m) (hsize : g.locals.size = c.maxLocals) {argsL rest : List Value} (hlen : ∀ sig, parseMethodDescriptor y.desc = some sig → argsL.length = sig.parameters.length)
    (hstack : g.stack = argsL.reverse ++ rest) (hW : 2 * g.monitorRoom + (rest.map fun v => v.category).sum ≤ W9) (hdg : decode c.code g.pc = .ok (.invokestatic index, 3))
    (hpre : ∀ vm₁, s.WarmedH vm₁ → Pre ⟨T.setVm vm₁, locs, cells, slots⟩ argsL.toArray) :
    (∃ (v : Option Value) (vm₁ : Vm) (B : Pt), s.WarmedH vm₁ ∧ Stand p l e R s m args below meth c B.U B.locs B.cells B.slots ∧ Post ⟨T.setVm vm₁, locs, cells, slots⟩ argsL.toArray v B ∧
      ∀ target, Steps p.tables e below (B.U.setTop { g with pc := g.pc + 3, stack := v.toList ++ rest }) target → Steps p.tables e below (T.setTop g) target) ∨
    (∃ (q : Addr) (vm₁ : Vm) (B : Pt), s.WarmedH vm₁ ∧ Stand p l e R s m args below meth c B.U B.locs B.cells B.slots ∧ PostX ⟨T.setVm vm₁, locs, cells, slots⟩ argsL.toArray q B ∧
      Steps p.tables e below (T.setTop g) ((B.U.setTop { g with stack := rest }).pushFrame (.throwing q))) := by
  obtain ⟨mk, hnamed⟩ := Cond.code_named hcode
  obtain ⟨methM, cM, hmethM, -, -, -, -, -, -, hsigM⟩ := Cond.code_spec hnamed hcode
  have hstatic : methM.isStatic = true := Cond.static_spec hnamed hmethM hstat
  obtain ⟨kP, hkP, -⟩ := className_of_methodNamed hnamed
  have hinitP : kP.init = .initialized := Cond.initialized_spec (findClass_of_methodNamed hnamed) hkP hinit
  obtain ⟨vm₁, X₁, hstep₁⟩ := X.invokestatic hexec hown hlink hnamed hmethM hstatic hkP hinitP hy (g := g) hg (argsL := argsL) (rest := rest) (hlen _ hsigM) hstack hdg
  rcases hK m meth c ⟨T.setVm vm₁, locs, cells, slots⟩ { g with stack := rest } (.invokestatic index) mk argsL.toArray X₁ hg hsize hdg hW (X₁.named hnamed) (hpre vm₁ X₁.warmed) with ⟨v, B, X', hpost, hsteps⟩ | ⟨q, B, X', hpost, hsteps⟩
  · exact Or.inl ⟨v, vm₁, B, X₁.warmed, X', hpost, fun target h => hstep₁ _ fun acts => by rw [doInvoke_state]; exact hsteps.trans h⟩
  · exact Or.inr ⟨q, vm₁, B, X₁.warmed, X', hpost, hstep₁ _ fun acts => by rw [doInvoke_state]; exact hsteps⟩
end Calls
theorem vx_cls {s : State} {T : State} {vm₁ : Vm} {E : String} {k : ClassId} (hW : s.WarmedH vm₁) (h : (T.setVm vm₁).vm.findClass E = some k) : s.vm.findClass E = some k := by
  have h1 : vm₁.findClass E = some k := h
  rw [hW.alike.findClass] at h1
  exact h1
/-- the method's frame g, with q thrown over it -/
def vx_W (p : Program) (l : Launch) (e : Env) (R : Room) (s : State) (m : MethodId) (args : Array Value) (below : List Frame) (meth : Method) (c : Code) (H : Heap) (locs : List Loc) (cells slots : Nat) (Q : State → Prop) (g : JFrame) (q : Addr) : Prop :=
  ∀ T : State, T.heap = H → Stand p l e R s m args below meth c T locs cells slots → ∃ t, Steps p.tables e below ((T.setTop g).pushFrame (.throwing q)) t ∧ Q t
def vx_Run (p : Program) (l : Launch) (e : Env) (R : Room) (s : State) (m : MethodId) (args : Array Value) (below : List Frame) (meth : Method) (c : Code) (H : Heap) (locs : List Loc) (cells slots mc ms : Nat) (g : JFrame) (rest : List Value) (Qa : State → Outcome → State → Prop) (XC : String → State → State → Prop) (free : Addr → Prop) : Prop :=
  ∀ T : State, T.heap = H → Stand p l e R s m args below meth c T locs cells slots →
    (∃ (v : Option Value) (st₀ t T' : State) (L : List Loc), st₀.heap = H ∧ Stand p l e R s m args below meth c T' (locs ++ L) (cells + mc) (slots + ms) ∧ (∀ q ∈ L, free q.base) ∧ T'.heap = t.heap ∧ T'.vm = t.vm ∧ Qa st₀ (.returned v) t ∧
      Goes p e below T g T' { g with pc := g.pc + 3, stack := v.toList ++ rest }) ∨
    (∃ (q : Addr) (st₀ t T' : State) (L : List Loc) (E : String) (ce : Cell), st₀.heap = H ∧ Stand p l e R s m args below meth c T' (locs ++ L) (cells + mc) (slots + ms) ∧ (∀ z ∈ L, free z.base) ∧ T'.heap = t.heap ∧ T'.vm = t.vm ∧ XC E st₀ t ∧ t.heap[q]? = some ce ∧ ce.vm = .none ∧ s.vm.findClass E = some ce.cls ∧
      Steps p.tables e below (T.setTop g) ((T'.setTop { g with stack := rest }).pushFrame (.throwing q)))
def vx_X {S : Type} (px : S → Prop) (B : String → S → State → Prop) (A : Nat → Prop) : String → State → State → Prop := fun E st t => ∃ u : S, px u ∧ B E u t ∧ va_F A st t
section Runs
variable {p : Program} {l : Launch} {e : Env} {R : Room} {s : State} {m : MethodId} {args : Array Value} {below : List Frame} {meth : Method} {c : Code} {H : Heap} {locs : List Loc} {cells slots : Nat}
variable {y : MethodName} {bytes cc : ByteArray} {maxL nL mc ms n index : Nat} {ret : Option FieldType} {ws : List Cond} {rm : Room} {Pc : Array Value → State → Prop} {Qc : Array Value → State → Outcome → State → Prop} {XC : String → State → State → Prop} {free : Addr → Prop} {Ts : List Cond} {own C : String} {b : Addr} {As rest : List Value} {g : JFrame}
theorem vx_callBack (cb : CallB R s args own index y bytes maxL ret ws rm mc ms n) (hM : vx_Met l y ws rm Pc Qc XC mc ms free) (hbl : FrameBlind Pc) : vx_Back l R p e below s args y 3 8 (PreOf R mc ms Pc) (PostOf Qc mc ms free) (vx_Post XC mc ms free) := by
  obtain ⟨hrc, hrs, hfr, hlo, hws, hcw, -, hini, -⟩ := cb
  exact vx_back (bytes := bytes) (maxL := maxL) (ret := ret) hM hbl hrc hrs hfr hlo hws hcw (fun a' U hW => word_at hW (Or.inl (by first | rfl | simp [Cond.onTables, Cond.keeps, Cond.steady])) hini)
theorem vx_runV (S : CallFix p m c cc nL s args Ts own) (hM : vx_Met l y ws rm Pc Qc XC mc ms free) (cw : CallW R s args own C index y bytes maxL ret ws rm mc ms n) (hp : PreV s H C b Pc As)
    (hg : g.method = m) (hn : As.length = n) (hsize : g.locals.size = nL) (hstack : g.stack = As.reverse ++ .ref b :: rest) (hW : 2 * g.monitorRoom + (rest.map fun v => v.category).sum ≤ 8) (hdg : decode cc g.pc = .ok (.invokevirtual index, 3)) (hf : cells + mc ≤ R.cells ∧ slots + ms ≤ R.slots) :
    vx_Run p l e R s m args below meth c H locs cells slots mc ms g rest (Qc (Value.ref b :: As).toArray) XC free := by
  have hK : vx_Back l R p e below s args y 3 8 (PreOf R mc ms Pc) (PostOf Qc mc ms free) (vx_Post XC mc ms free) := vx_callBack cw.1 hM hp.1
  obtain ⟨⟨-, -, -, -, -, -, hcode, -, hy, hlen, hl⟩, hin, hse⟩ := cw
  obtain ⟨hx, hb, hml, ho, -⟩ := S
  obtain ⟨-, ⟨cellB, hcB, hoB, hclB⟩, hPc⟩ := hp
  intro T hT X
  rcases vx_callV X hx (C := C) (bytes := bytes) (maxL := maxL) (ret := ret) ho hl hin hse hcode hy hK (by rw [hT]; exact hcB) hoB hclB hg (hsize.trans hml.symm) (argsL := As) (rest := rest) (fun sig h => hn.trans (hlen sig h)) hstack hW (by rw [hb]; exact hdg)
    (fun vm₁ hW₁ => ⟨hf.1, hf.2, hPc (T.setVm vm₁) hT hW₁⟩) with ⟨v, vm₁, ⟨U', l2, c2, s2⟩, hW₁, X', ⟨g', mk, t, L, e1, e2, hq, h1, hL, h2, h3⟩, st⟩ | ⟨q, vm₁, ⟨U', l2, c2, s2⟩, hW₁, X', ⟨g', mk, t, L, E, ce, e1, e2, hq, hce, hcv, hcl, h1, hL, h2, h3⟩, st⟩
  · dsimp only [Pt.U, Pt.locs, Pt.cells, Pt.slots] at X' e1 e2 h1 h2 h3 st
    subst h1; subst h2; subst h3
    exact Or.inl ⟨v, (T.setVm vm₁).calling g' mk (Value.ref b :: As).toArray, t, U', L, hT, X', hL, e1, e2, hq, st⟩
  · dsimp only [Pt.U, Pt.locs, Pt.cells, Pt.slots] at X' e1 e2 h1 h2 h3 st hcl
    subst h1; subst h2; subst h3
    exact Or.inr ⟨q, (T.setVm vm₁).calling g' mk (Value.ref b :: As).toArray, t, U', L, E, ce, hT, X', hL, e1, e2, hq, hce, hcv, vx_cls hW₁ hcl, st⟩
theorem vx_runS (S : CallFix p m c cc nL s args Ts own) (hM : vx_Met l y ws rm Pc Qc XC mc ms free) (cw : CallB R s args own index y bytes maxL ret ws rm mc ms n ∧ (Cond.static y).before args s = true) (hp : PreS s H Pc As)
    (hg : g.method = m) (hn : As.length = n) (hsize : g.locals.size = nL) (hstack : g.stack = As.reverse ++ rest) (hW : 2 * g.monitorRoom + (rest.map fun v => v.category).sum ≤ 8) (hdg : decode cc g.pc = .ok (.invokestatic index, 3)) (hf : cells + mc ≤ R.cells ∧ slots + ms ≤ R.slots) :
    vx_Run p l e R s m args below meth c H locs cells slots mc ms g rest (Qc As.toArray) XC free := by
  have hK : vx_Back l R p e below s args y 3 8 (PreOf R mc ms Pc) (PostOf Qc mc ms free) (vx_Post XC mc ms free) := vx_callBack cw.1 hM hp.1
  obtain ⟨⟨-, -, -, -, -, -, hcode, hini, hy, hlen, hl⟩, hstt⟩ := cw
  obtain ⟨hx, hb, hml, ho, -⟩ := S
  intro T hT X
  rcases vx_callS X hx (bytes := bytes) (maxL := maxL) (ret := ret) ho hl hstt hini hcode hy hK hg (hsize.trans hml.symm) (argsL := As) (rest := rest) (fun sig h => hn.trans (hlen sig h)) hstack hW (by rw [hb]; exact hdg)
    (fun vm₁ hW₁ => ⟨hf.1, hf.2, hp.2 (T.setVm vm₁) hT hW₁⟩) with ⟨v, vm₁, ⟨U', l2, c2, s2⟩, hW₁, X', ⟨g', mk, t, L, e1, e2, hq, h1, hL, h2, h3⟩, st⟩ | ⟨q, vm₁, ⟨U', l2, c2, s2⟩, hW₁, X', ⟨g', mk, t, L, E, ce, e1, e2, hq, hce, hcv, hcl, h1, hL, h2, h3⟩, st⟩
  · dsimp only [Pt.U, Pt.locs, Pt.cells, Pt.slots] at X' e1 e2 h1 h2 h3 st
    subst h1; subst h2; subst h3
    exact Or.inl ⟨v, (T.setVm vm₁).calling g' mk As.toArray, t, U', L, hT, X', hL, e1, e2, hq, st⟩
  · dsimp only [Pt.U, Pt.locs, Pt.cells, Pt.slots] at X' e1 e2 h1 h2 h3 st hcl
    subst h1; subst h2; subst h3
    exact Or.inr ⟨q, (T.setVm vm₁).calling g' mk As.toArray, t, U', L, E, ce, hT, X', hL, e1, e2, hq, hce, hcv, vx_cls hW₁ hcl, st⟩
end Runs
section Rows
variable {p : Program} {l : Launch} {e : Env} {R : Room} {s : State} {m : MethodId} {args : Array Value} {below : List Frame} {meth : Method} {c : Code} {H : Heap} {locs : List Loc} {cells slots : Nat} {Q : State → Prop}
variable {mc ms : Nat} {free : Addr → Prop} {A0 A1 : Nat → Prop} {H0 : Heap} {a : Array Value} {pc : Nat} {ls : Array Slot} {st0 rest : List Value}
theorem vx_keep {st₀ t T' : State} {L : List Loc} (h0 : st₀.heap = H) (e1 : T'.heap = t.heap) (hS : va_S A0 H0 H locs) (hA : ∀ q, q < H.size → A1 q → A0 q) (hf : ∀ q, free q → A0 q) (hL : ∀ q ∈ L, free q.base) (hF : va_F A1 st₀ t) :
    H.size ≤ T'.heap.size ∧ (∀ q : Nat, q < H.size → ¬ A1 q → T'.heap[q]? = H[q]?) ∧ va_S A0 H0 T'.heap (locs ++ L) := by
  obtain ⟨hz, hk⟩ := hF
  rw [h0] at hz hk
  exact ⟨by rw [e1]; exact hz, fun q h1 h2 => by rw [e1]; exact hk q h1 h2,
    ⟨Nat.le_trans hS.1 (by rw [e1]; exact hz), fun q h1 h2 => by rw [e1, hk q (Nat.lt_of_lt_of_le h1 hS.1) (fun z => h2 (hA q (Nat.lt_of_lt_of_le h1 hS.1) z))]; exact hS.2.1 q h1 h2, fun q hq => by
      rcases List.mem_append.mp hq with h | h
      · exact hS.2.2 q h
      · exact hf _ (hL q h)⟩⟩
theorem vx_calli {S SX : Type} {post : Int32 → S → Prop} {px : SX → Prop} {B : S → State → Prop} {BX : String → SX → State → Prop} {AX : Nat → Prop} (hr : vx_Run p l e R s m args below meth c H locs cells slots mc ms (F0 m pc ls st0) rest (va_Qi post B A1 a) (vx_X px BX AX) free) (hS : va_S A0 H0 H locs) (hA : ∀ q, q < H.size → A1 q → A0 q) (hf : ∀ q, free q → A0 q) (hAX : ∀ q, q < H.size → AX q → A0 q)
    (kx : ∀ (E : String) (ce : Cell) (q9 : Addr) (u : SX) (t : State) (H1 : Heap) (locs1 : List Loc), t.heap = H1 → s.vm.Alike t.vm → px u → BX E u t → H.size ≤ H1.size → (∀ q : Nat, q < H.size → ¬ AX q → H1[q]? = H[q]?) → va_S A0 H0 H1 locs1 → H1[q9]? = some ce → ce.vm = .none → s.vm.findClass E = some ce.cls → vx_W p l e R s m args below meth c H1 locs1 (cells + mc) (slots + ms) Q (F0 m pc ls rest) q9)
    (kk : ∀ (r : Int32) (u : S) (t : State) (H1 : Heap) (locs1 : List Loc), t.heap = H1 → s.vm.Alike t.vm → post r u → B u t → H.size ≤ H1.size → (∀ q : Nat, q < H.size → ¬ A1 q → H1[q]? = H[q]?) → va_S A0 H0 H1 locs1 → W p l e R s m args below meth c H1 locs1 (cells + mc) (slots + ms) Q (F0 m (pc + 3) ls (.int r :: rest))) : W p l e R s m args below meth c H locs cells slots Q (F0 m pc ls st0) := by
  intro T hT X
  rcases hr T hT X with ⟨v, st₀, t, T', L, h0, X', hL, e1, e2, ⟨⟨r, u, hv, hp, hb⟩, hF⟩, st⟩ | ⟨q, st₀, t, T', L, E, ce, h0, X', hL, e1, e2, ⟨u, hp, hb, hF⟩, hce, hcv, hcl, st⟩
  · cases hv
    obtain ⟨k1, k2, k3⟩ := vx_keep h0 e1 hS hA hf hL hF
    obtain ⟨t2, a1, b1⟩ := kk r u t T'.heap (locs ++ L) e1.symm (by rw [← e2]; exact X'.warmed.alike) hp hb k1 k2 k3 T' rfl X'
    exact ⟨t2, st t2 a1, b1⟩
  · obtain ⟨k1, k2, k3⟩ := vx_keep h0 e1 hS hAX hf hL hF
    obtain ⟨t2, a1, b1⟩ := kx E ce q u t T'.heap (locs ++ L) e1.symm (by rw [← e2]; exact X'.warmed.alike) hp hb k1 k2 k3 (by rw [e1]; exact hce) hcv hcl T' rfl X'
    exact ⟨t2, st.trans a1, b1⟩
theorem vx_calll {S SX : Type} {post : Int64 → S → Prop} {px : SX → Prop} {B : S → State → Prop} {BX : String → SX → State → Prop} {AX : Nat → Prop} (hr : vx_Run p l e R s m args below meth c H locs cells slots mc ms (F0 m pc ls st0) rest (va_Ql post B A1 a) (vx_X px BX AX) free) (hS : va_S A0 H0 H locs) (hA : ∀ q, q < H.size → A1 q → A0 q) (hf : ∀ q, free q → A0 q) (hAX : ∀ q, q < H.size → AX q → A0 q)
    (kx : ∀ (E : String) (ce : Cell) (q9 : Addr) (u : SX) (t : State) (H1 : Heap) (locs1 : List Loc), t.heap = H1 → s.vm.Alike t.vm → px u → BX E u t → H.size ≤ H1.size → (∀ q : Nat, q < H.size → ¬ AX q → H1[q]? = H[q]?) → va_S A0 H0 H1 locs1 → H1[q9]? = some ce → ce.vm = .none → s.vm.findClass E = some ce.cls → vx_W p l e R s m args below meth c H1 locs1 (cells + mc) (slots + ms) Q (F0 m pc ls rest) q9)
    (kk : ∀ (r : Int64) (u : S) (t : State) (H1 : Heap) (locs1 : List Loc), t.heap = H1 → s.vm.Alike t.vm → post r u → B u t → H.size ≤ H1.size → (∀ q : Nat, q < H.size → ¬ A1 q → H1[q]? = H[q]?) → va_S A0 H0 H1 locs1 → W p l e R s m args below meth c H1 locs1 (cells + mc) (slots + ms) Q (F0 m (pc + 3) ls (.long r :: rest))) : W p l e R s m args below meth c H locs cells slots Q (F0 m pc ls st0) := by
  intro T hT X
  rcases hr T hT X with ⟨v, st₀, t, T', L, h0, X', hL, e1, e2, ⟨⟨r, u, hv, hp, hb⟩, hF⟩, st⟩ | ⟨q, st₀, t, T', L, E, ce, h0, X', hL, e1, e2, ⟨u, hp, hb, hF⟩, hce, hcv, hcl, st⟩
  · cases hv
    obtain ⟨k1, k2, k3⟩ := vx_keep h0 e1 hS hA hf hL hF
    obtain ⟨t2, a1, b1⟩ := kk r u t T'.heap (locs ++ L) e1.symm (by rw [← e2]; exact X'.warmed.alike) hp hb k1 k2 k3 T' rfl X'
    exact ⟨t2, st t2 a1, b1⟩
  · obtain ⟨k1, k2, k3⟩ := vx_keep h0 e1 hS hAX hf hL hF
    obtain ⟨t2, a1, b1⟩ := kx E ce q u t T'.heap (locs ++ L) e1.symm (by rw [← e2]; exact X'.warmed.alike) hp hb k1 k2 k3 (by rw [e1]; exact hce) hcv hcl T' rfl X'
    exact ⟨t2, st.trans a1, b1⟩
theorem vx_callf {S SX : Type} {post : UInt32 → S → Prop} {px : SX → Prop} {B : S → State → Prop} {BX : String → SX → State → Prop} {AX : Nat → Prop} (hr : vx_Run p l e R s m args below meth c H locs cells slots mc ms (F0 m pc ls st0) rest (va_Qf post B A1 a) (vx_X px BX AX) free) (hS : va_S A0 H0 H locs) (hA : ∀ q, q < H.size → A1 q → A0 q) (hf : ∀ q, free q → A0 q) (hAX : ∀ q, q < H.size → AX q → A0 q)
    (kx : ∀ (E : String) (ce : Cell) (q9 : Addr) (u : SX) (t : State) (H1 : Heap) (locs1 : List Loc), t.heap = H1 → s.vm.Alike t.vm → px u → BX E u t → H.size ≤ H1.size → (∀ q : Nat, q < H.size → ¬ AX q → H1[q]? = H[q]?) → va_S A0 H0 H1 locs1 → H1[q9]? = some ce → ce.vm = .none → s.vm.findClass E = some ce.cls → vx_W p l e R s m args below meth c H1 locs1 (cells + mc) (slots + ms) Q (F0 m pc ls rest) q9)
    (kk : ∀ (r : UInt32) (u : S) (t : State) (H1 : Heap) (locs1 : List Loc), t.heap = H1 → s.vm.Alike t.vm → post r u → B u t → H.size ≤ H1.size → (∀ q : Nat, q < H.size → ¬ A1 q → H1[q]? = H[q]?) → va_S A0 H0 H1 locs1 → W p l e R s m args below meth c H1 locs1 (cells + mc) (slots + ms) Q (F0 m (pc + 3) ls (.float r :: rest))) : W p l e R s m args below meth c H locs cells slots Q (F0 m pc ls st0) := by
  intro T hT X
  rcases hr T hT X with ⟨v, st₀, t, T', L, h0, X', hL, e1, e2, ⟨⟨r, u, hv, hp, hb⟩, hF⟩, st⟩ | ⟨q, st₀, t, T', L, E, ce, h0, X', hL, e1, e2, ⟨u, hp, hb, hF⟩, hce, hcv, hcl, st⟩
  · cases hv
    obtain ⟨k1, k2, k3⟩ := vx_keep h0 e1 hS hA hf hL hF
    obtain ⟨t2, a1, b1⟩ := kk r u t T'.heap (locs ++ L) e1.symm (by rw [← e2]; exact X'.warmed.alike) hp hb k1 k2 k3 T' rfl X'
    exact ⟨t2, st t2 a1, b1⟩
  · obtain ⟨k1, k2, k3⟩ := vx_keep h0 e1 hS hAX hf hL hF
    obtain ⟨t2, a1, b1⟩ := kx E ce q u t T'.heap (locs ++ L) e1.symm (by rw [← e2]; exact X'.warmed.alike) hp hb k1 k2 k3 (by rw [e1]; exact hce) hcv hcl T' rfl X'
    exact ⟨t2, st.trans a1, b1⟩
theorem vx_calld {S SX : Type} {post : UInt64 → S → Prop} {px : SX → Prop} {B : S → State → Prop} {BX : String → SX → State → Prop} {AX : Nat → Prop} (hr : vx_Run p l e R s m args below meth c H locs cells slots mc ms (F0 m pc ls st0) rest (va_Qd post B A1 a) (vx_X px BX AX) free) (hS : va_S A0 H0 H locs) (hA : ∀ q, q < H.size → A1 q → A0 q) (hf : ∀ q, free q → A0 q) (hAX : ∀ q, q < H.size → AX q → A0 q)
    (kx : ∀ (E : String) (ce : Cell) (q9 : Addr) (u : SX) (t : State) (H1 : Heap) (locs1 : List Loc), t.heap = H1 → s.vm.Alike t.vm → px u → BX E u t → H.size ≤ H1.size → (∀ q : Nat, q < H.size → ¬ AX q → H1[q]? = H[q]?) → va_S A0 H0 H1 locs1 → H1[q9]? = some ce → ce.vm = .none → s.vm.findClass E = some ce.cls → vx_W p l e R s m args below meth c H1 locs1 (cells + mc) (slots + ms) Q (F0 m pc ls rest) q9)
    (kk : ∀ (r : UInt64) (u : S) (t : State) (H1 : Heap) (locs1 : List Loc), t.heap = H1 → s.vm.Alike t.vm → post r u → B u t → H.size ≤ H1.size → (∀ q : Nat, q < H.size → ¬ A1 q → H1[q]? = H[q]?) → va_S A0 H0 H1 locs1 → W p l e R s m args below meth c H1 locs1 (cells + mc) (slots + ms) Q (F0 m (pc + 3) ls (.double r :: rest))) : W p l e R s m args below meth c H locs cells slots Q (F0 m pc ls st0) := by
  intro T hT X
  rcases hr T hT X with ⟨v, st₀, t, T', L, h0, X', hL, e1, e2, ⟨⟨r, u, hv, hp, hb⟩, hF⟩, st⟩ | ⟨q, st₀, t, T', L, E, ce, h0, X', hL, e1, e2, ⟨u, hp, hb, hF⟩, hce, hcv, hcl, st⟩
  · cases hv
    obtain ⟨k1, k2, k3⟩ := vx_keep h0 e1 hS hA hf hL hF
    obtain ⟨t2, a1, b1⟩ := kk r u t T'.heap (locs ++ L) e1.symm (by rw [← e2]; exact X'.warmed.alike) hp hb k1 k2 k3 T' rfl X'
    exact ⟨t2, st t2 a1, b1⟩
  · obtain ⟨k1, k2, k3⟩ := vx_keep h0 e1 hS hAX hf hL hF
    obtain ⟨t2, a1, b1⟩ := kx E ce q u t T'.heap (locs ++ L) e1.symm (by rw [← e2]; exact X'.warmed.alike) hp hb k1 k2 k3 (by rw [e1]; exact hce) hcv hcl T' rfl X'
    exact ⟨t2, st.trans a1, b1⟩
theorem vx_callv {S SX : Type} {post : S → Prop} {px : SX → Prop} {B : S → State → Prop} {BX : String → SX → State → Prop} {AX : Nat → Prop} (hr : vx_Run p l e R s m args below meth c H locs cells slots mc ms (F0 m pc ls st0) rest (va_Qv post B A1 a) (vx_X px BX AX) free) (hS : va_S A0 H0 H locs) (hA : ∀ q, q < H.size → A1 q → A0 q) (hf : ∀ q, free q → A0 q) (hAX : ∀ q, q < H.size → AX q → A0 q)
    (kx : ∀ (E : String) (ce : Cell) (q9 : Addr) (u : SX) (t : State) (H1 : Heap) (locs1 : List Loc), t.heap = H1 → s.vm.Alike t.vm → px u → BX E u t → H.size ≤ H1.size → (∀ q : Nat, q < H.size → ¬ AX q → H1[q]? = H[q]?) → va_S A0 H0 H1 locs1 → H1[q9]? = some ce → ce.vm = .none → s.vm.findClass E = some ce.cls → vx_W p l e R s m args below meth c H1 locs1 (cells + mc) (slots + ms) Q (F0 m pc ls rest) q9)
    (kk : ∀ (u : S) (t : State) (H1 : Heap) (locs1 : List Loc), t.heap = H1 → s.vm.Alike t.vm → post u → B u t → H.size ≤ H1.size → (∀ q : Nat, q < H.size → ¬ A1 q → H1[q]? = H[q]?) → va_S A0 H0 H1 locs1 → W p l e R s m args below meth c H1 locs1 (cells + mc) (slots + ms) Q (F0 m (pc + 3) ls (rest))) : W p l e R s m args below meth c H locs cells slots Q (F0 m pc ls st0) := by
  intro T hT X
  rcases hr T hT X with ⟨v, st₀, t, T', L, h0, X', hL, e1, e2, ⟨⟨u, hv, hp, hb⟩, hF⟩, st⟩ | ⟨q, st₀, t, T', L, E, ce, h0, X', hL, e1, e2, ⟨u, hp, hb, hF⟩, hce, hcv, hcl, st⟩
  · cases hv
    obtain ⟨k1, k2, k3⟩ := vx_keep h0 e1 hS hA hf hL hF
    obtain ⟨t2, a1, b1⟩ := kk u t T'.heap (locs ++ L) e1.symm (by rw [← e2]; exact X'.warmed.alike) hp hb k1 k2 k3 T' rfl X'
    exact ⟨t2, st t2 a1, b1⟩
  · obtain ⟨k1, k2, k3⟩ := vx_keep h0 e1 hS hAX hf hL hF
    obtain ⟨t2, a1, b1⟩ := kx E ce q u t T'.heap (locs ++ L) e1.symm (by rw [← e2]; exact X'.warmed.alike) hp hb k1 k2 k3 (by rw [e1]; exact hce) hcv hcl T' rfl X'
    exact ⟨t2, st.trans a1, b1⟩
/-- caught by the row x of this method's table; the rows ahead don't take it -/
theorem vx_catch {own name : String} {E : String} {ce : Cell} {q : Addr} (hown : s.vm.findClass own = some m.cls) (pre : List ExceptionTableEntry) (x : ExceptionTableEntry) (suf : List ExceptionTableEntry) (hsplit : c.exceptionTable.toList = pre ++ x :: suf)
    (hpass : ∀ z ∈ pre, covers z pc = false ∨ (z.catchType ≠ 0 ∧ ∃ nm : String, (Cond.classLink own z.catchType nm).before args s = true ∧ va_Nc E nm s)) (hx : covers x pc = true) (h0 : x.catchType ≠ 0)
    (hlink : (Cond.classLink own x.catchType name).before args s = true) (hcast : (Cond.castable E name).before args s = true) (hcell : H[q]? = some ce) (hv : ce.vm = .none) (hcl : s.vm.findClass E = some ce.cls)
    (kk : W p l e R s m args below meth c H locs cells slots Q (F0 m x.handlerPc ls [.ref q])) : vx_W p l e R s m args below meth c H locs cells slots Q (F0 m pc ls rest) q := by
  intro T hT X
  have hpl : e.platform.magicAccessors = ({} : Platform).magicAccessors := by rw [X.admits.platform]
  obtain ⟨c3, c4, hc3, hc4, hasg⟩ := Cond.castable_spec hcast
  cases Option.some.inj (hc3.symm.trans hcl)
  obtain ⟨c5, hc5, hcl5⟩ := Cond.classLink_spec hown hlink e.platform hpl
  cases Option.some.inj (hc4.symm.trans hc5)
  obtain ⟨vm', X', st⟩ := X.thenCaughtThrough q (g := F0 m pc ls rest) rfl (Steps.refl _) (by rw [hT]; exact hcell) (by rw [hv]; rfl) (by obtain ⟨k9, h9, -⟩ := Vm.findClass_spec hcl; exact ⟨k9, h9⟩) pre x suf hsplit
    (fun z hz => by
      rcases hpass z hz with h | ⟨hz0, nm, hl1, hn1⟩
      · exact Or.inl h
      · obtain ⟨c6, hc6, hcl6⟩ := Cond.classLink_spec hown hl1 e.platform hpl
        obtain ⟨a8, b8, h1, h2, h3⟩ := hn1
        cases Option.some.inj (h1.symm.trans hcl)
        cases Option.some.inj (h2.symm.trans hc6)
        exact Or.inr ⟨hz0, _, hcl6, h3⟩) hx (Or.inr ⟨h0, c4, hcl5, hasg⟩)
  obtain ⟨t, a1, b1⟩ := kk (T.setVm vm') hT X'
  exact ⟨t, st.trans a1, b1⟩
end Rows
section Ends
variable {p : Program} {l : Launch} {e : Env} {R : Room} {s : State} {m : MethodId} {args : Array Value} {below : List Frame} {meth : Method} {c : Code} {H : Heap} {locs : List Loc} {cells slots : Nat} {Q : State → Prop}
variable {mc ms : Nat} {free : Addr → Prop} {A0 A1 : Nat → Prop} {H0 : Heap} {a : Array Value} {ls : Array Slot} {st0 rest : List Value}
variable {Qc : Array Value → State → Outcome → State → Prop} {XC : String → State → State → Prop}
/-- what a body that may throw owes at its end -/
def vx_MQ (below : List Frame) (Qc : Array Value → State → Outcome → State → Prop) (XC : String → State → State → Prop) (a : Array Value) (s : State) (mc ms : Nat) (free : Addr → Prop) : State → Prop := fun t =>
  ∃ o, t.status = .running ∧ Ended t below o ∧ vx_Q Qc XC mc ms free a s o t
theorem vx_ret {g : JFrame} {mc ms : Nat} (k : W p l e R s m args below meth c H locs cells slots (MQ below Qc args s mc ms free) g) : W p l e R s m args below meth c H locs cells slots (vx_MQ below Qc XC args s mc ms free) g := by
  intro T hT X
  obtain ⟨t, a1, o, b1, b2, b3, b4⟩ := k T hT X
  exact ⟨t, a1, o, b1, b2, Or.inl ⟨b3, b4⟩⟩
/-- not caught here: it goes on to the caller -/
theorem vx_widen {g : JFrame} {q : Addr} {k n : Nat} (h1 : cells ≤ k) (h2 : slots ≤ n) (kk : vx_W p l e R s m args below meth c H locs k n Q g q) : vx_W p l e R s m args below meth c H locs cells slots Q g q := fun T hT X => kk T hT (stand_widen X h1 h2)
theorem vx_out {pc : Nat} {E : String} {ce : Cell} {q : Addr} {mc ms : Nat} (hout : ∀ x ∈ c.exceptionTable.toList, covers x pc = false) (hlocks : meth.locks = false) (hcell : H[q]? = some ce) (hv : ce.vm = .none) (hcl : s.vm.findClass E = some ce.cls)
    (hx : ∀ t : State, t.heap = H → s.vm.Alike t.vm → XC E s t) (hf : ∀ z ∈ locs, free z.base) (hc : cells ≤ mc) (hs : slots ≤ ms) :
    vx_W p l e R s m args below meth c H locs cells slots (vx_MQ below Qc XC args s mc ms free) (F0 m pc ls rest) q := by
  intro T hT X
  obtain ⟨st1, hrun, hend, hW, hsm⟩ := X.leaveThrown q (g := F0 m pc ls rest) rfl rfl rfl hout hlocks
  have hcell9 : (T.setFrames (.throwing q :: below)).heap[q]? = some ce := by
    show T.heap[q]? = some ce
    rw [hT]; exact hcell
  exact ⟨_, st1, .threw q, hrun, hend, Or.inr ⟨q, rfl, E, ce, locs, hx _ hT hW.alike, hcell9, hv, hcl, hW, hsm.mono hc hs, hf⟩⟩
theorem vx_frame {U : State} {k n : Nat} (h : s.sameButNew ({ U with vm := s.vm } : State) locs k n) : s.heap.size ≤ U.heap.size ∧ ∀ q : Nat, q < s.heap.size → (∀ z ∈ locs, z.base ≠ q) → U.heap[q]? = s.heap[q]? := by
  obtain ⟨-, h2, -, -, -, h6⟩ := h
  refine ⟨h2, fun q hq hz => ?_⟩
  obtain ⟨c9, e1, e2, e3, e4⟩ := h6 q _ (Array.getElem?_eq_getElem hq)
  have hs : c9.slots = (s.heap[q]).slots := Array.ext_getElem? fun i => e4 i fun hm => hz _ hm rfl
  have h9 : c9 = s.heap[q] := by
    rw [hs] at e2
    exact e2
  have e5 : U.heap[q]? = some c9 := e1
  rw [e5, h9, Array.getElem?_eq_getElem hq]
/-- the words of a throw but the four that speak of the heap -/
def vx_no (w : Cond) : Bool := decide (w ≠ .isRef (.static Bundle.tN "UNASSIGNED_STACK" Bundle.steD)) && decide (w ≠ .isRef (.static Bundle.tN "SUPPRESSED_SENTINEL" Bundle.listD)) && decide (w ≠ .laysStatic Bundle.tN "UNASSIGNED_STACK" Bundle.steD) && decide (w ≠ .laysStatic Bundle.tN "SUPPRESSED_SENTINEL" Bundle.listD)
def vx_at0 (own : String) (ic : Nat) (X : String) (names : List String) : List Cond := (Bundle.ownAtoms0 own ic X names).filter vx_no
def vx_atS (own : String) (ic : Nat) (X : String) (names : List String) : List Cond := (Bundle.ownAtoms own ic X names).filter vx_no
/-- a word that the tables alone decide, or a good one -/
def vx_ot (w : Cond) : Bool := w.onTables || goodWord w
theorem vx_ot_at {args a' : Array Value} {s U : State} {w : Cond} (hW : s.WarmedH U.vm) (hvm : s.vm = U.vm) (hg : vx_ot w = true) (h : w.before args s = true) : w.before a' U = true := by
  simp only [vx_ot, Bool.or_eq_true] at hg
  rcases hg with hg | hg
  · exact va_tabs hg hvm h
  · exact word_at hW (good_of_word hg) h
/-- a list's words: the good ones out of the method's own list, the others by premises of their own -/
theorem vx_hat {args : Array Value} {s : State} {L B : List Cond} (h1 : ∀ w ∈ L.filter goodWord, w.before args s = true) (h2 : ∀ w ∈ L.filter (fun w => !goodWord w), w ∈ B) (h3 : ∀ w ∈ B, w.before args s = true) : ∀ w ∈ L, w.before args s = true := by
  intro w hw
  by_cases g : goodWord w = true
  · exact h1 w (List.mem_filter.mpr ⟨hw, g⟩)
  · refine h3 w (h2 w (List.mem_filter.mpr ⟨hw, ?_⟩))
    show (!goodWord w) = true
    cases hgw : goodWord w
    · rfl
    · exact absurd hgw g
theorem vx_c {args : Array Value} {s : State} {w : Cond} {B : List Cond} (h : w.before args s = true) (t : ∀ w ∈ B, w.before args s = true) : ∀ w' ∈ w :: B, w'.before args s = true := fun w' h' => (List.mem_cons.mp h').elim (fun e => by rw [e]; exact h) (t w')
theorem vx_n {args : Array Value} {s : State} : ∀ w ∈ ([] : List Cond), w.before args s = true := fun _ h => nomatch h
theorem vx_own {args : Array Value} {s : State} {L : List Cond} (h1 : ∀ w ∈ L.filter vx_no, w.before args s = true)
    (hU : (Cond.isRef (.static Bundle.tN "UNASSIGNED_STACK" Bundle.steD)).before args s = true) (hN : (Cond.isRef (.static Bundle.tN "SUPPRESSED_SENTINEL" Bundle.listD)).before args s = true)
    (lU : (Cond.laysStatic Bundle.tN "UNASSIGNED_STACK" Bundle.steD).before args s = true) (lN : (Cond.laysStatic Bundle.tN "SUPPRESSED_SENTINEL" Bundle.listD).before args s = true) : ∀ w ∈ L, w.before args s = true := by
  intro w hw
  by_cases e1 : w = .isRef (.static Bundle.tN "UNASSIGNED_STACK" Bundle.steD)
  · rw [e1]; exact hU
  · by_cases e2 : w = .isRef (.static Bundle.tN "SUPPRESSED_SENTINEL" Bundle.listD)
    · rw [e2]; exact hN
    · by_cases e3 : w = .laysStatic Bundle.tN "UNASSIGNED_STACK" Bundle.steD
      · rw [e3]; exact lU
      · by_cases e4 : w = .laysStatic Bundle.tN "SUPPRESSED_SENTINEL" Bundle.listD
        · rw [e4]; exact lN
        · exact h1 w (List.mem_filter.mpr ⟨hw, by unfold vx_no; rw [decide_eq_true e1, decide_eq_true e2, decide_eq_true e3, decide_eq_true e4]; rfl⟩)
/-- where a static field lies, its class's statics cell in H -/
def vx_L (C n d : String) (A : Nat → Prop) (U : State) (H : Heap) : Prop := ∃ (c : ClassId) (k : Class) (i : Nat) (f : Field) (a : Nat) (cell : Cell), U.vm.findClass C = some c ∧ U.fieldFound? C n d = some (c, k, i, f) ∧ f.isStatic = true ∧ k.statics = some a ∧ H[a]? = some cell ∧ cell.vm.isStatics = true ∧ cell.cls = c ∧ f.slot < cell.slots.size ∧ k.staticTypes[f.slot]? = some f.type ∧ ¬ A a
theorem vx_L.moved {C n d : String} {A : Nat → Prop} {u U : State} {H : Heap} (hvm : u.vm.Alike U.vm) (h : vx_L C n d A u H) : vx_L C n d A U H := by
  obtain ⟨c, k, i, f, a, cell, h1, h2, h3, h4, h5, h6, h7, h8, h9, h10⟩ := h
  obtain ⟨k', hi', he⟩ := State.fieldFound?_setVm hvm h2
  exact ⟨c, k', i, f, a, cell, by rw [hvm.findClass]; exact h1, hi', h3, by rw [he]; exact h4, h5, h6, h7, h8, by rw [he]; exact h9, h10⟩
theorem vx_L.kept {C n d : String} {A : Nat → Prop} {U : State} {H H1 : Heap} (h : vx_L C n d A U H) (hq : ∀ a : Nat, a < H.size → ¬ A a → H1[a]? = H[a]?) : vx_L C n d A U H1 := by
  obtain ⟨c, k, i, f, a, cell, h1, h2, h3, h4, h5, h6, h7, h8, h9, h10⟩ := h
  exact ⟨c, k, i, f, a, cell, h1, h2, h3, h4, by rw [hq a (Array.getElem?_eq_some_iff.mp h5).1 h10]; exact h5, h6, h7, h8, h9, h10⟩
theorem vx_L.narrow {C n d : String} {A B : Nat → Prop} {U : State} {H : Heap} (h : vx_L C n d A U H) (hAB : ∀ q, B q → A q) : vx_L C n d B U H := by
  obtain ⟨c, k, i, f, a, cell, h1, h2, h3, h4, h5, h6, h7, h8, h9, h10⟩ := h
  exact ⟨c, k, i, f, a, cell, h1, h2, h3, h4, h5, h6, h7, h8, h9, fun z => h10 (hAB _ z)⟩
theorem vx_L.word {C n d : String} {A : Nat → Prop} {s : State} {args : Array Value} (h : vx_L C n d A s s.heap) : (Cond.laysStatic C n d).before args s = true := by
  obtain ⟨c, k, i, f, a, cell, h1, h2, h3, h4, h5, h6, h7, h8, h9, -⟩ := h
  show (Cond.laysStatic C n d).holds args s none s [] = true
  exact Cond.laysStatic_of h1 h2 h3 h4 h5 h6 h7 h8 h9
/-- .. and what it holds: null or some reference -/
def vx_Zq (C n d : String) (A : Nat → Prop) (U : State) (H : Heap) : Prop := va_Zq C n d A U H ∧ vx_L C n d A U H
theorem vx_Zq.moved {C n d : String} {A : Nat → Prop} {u U : State} {H : Heap} (hvm : u.vm.Alike U.vm) (h : vx_Zq C n d A u H) : vx_Zq C n d A U H := ⟨va_Zq.moved hvm h.1, vx_L.moved hvm h.2⟩
theorem vx_Zq.kept {C n d : String} {A : Nat → Prop} {U : State} {H H1 : Heap} (h : vx_Zq C n d A U H) (hq : ∀ a : Nat, a < H.size → ¬ A a → H1[a]? = H[a]?) : vx_Zq C n d A U H1 := ⟨va_Zq.kept h.1 hq, vx_L.kept h.2 hq⟩
theorem vx_Zq.narrow {C n d : String} {A B : Nat → Prop} {U : State} {H : Heap} (h : vx_Zq C n d A U H) (hAB : ∀ q, B q → A q) : vx_Zq C n d B U H := ⟨va_Zq.narrow h.1 hAB, vx_L.narrow h.2 hAB⟩
theorem vx_Zqof {args : Array Value} {s : State} {C n d : String} {A : Nat → Prop} (hl : (Cond.laysStatic C n d).before args s = true) (hini : (Cond.initialized C).before args s = true) (h : (Cond.isRef (.static C n d)).before args s = true) (hA : ∀ a : Nat, a < s.heap.size → ¬ A a) : vx_Zq C n d A s s.heap := by
  refine ⟨va_Zqof hl hini h hA, ?_⟩
  obtain ⟨c, k, i, f, a, cell, h1, h2, h3, h4, h5, h6, h7, h8, h9⟩ := Cond.laysStatic_spec hl
  exact ⟨c, k, i, f, a, cell, h1, h2, h3, h4, h5, h6, h7, h8, h9, hA a (Array.getElem?_eq_some_iff.mp h5).1⟩
theorem vx_isRef {C n d : String} {v : Value} {A : Nat → Prop} {s : State} {args : Array Value} (h : va_Z C n d v A s s.heap) (hv : v.isRef = true) : (Cond.isRef (.static C n d)).before args s = true := by
  obtain ⟨cf, kf, fi, f, a, cell, h1, h2, h3, h4, h5, h6, h7, -⟩ := h
  have he : (Term.static C n d).eval args s none [] s = some v := by
    simp [Term.eval, State.fieldNamed?, h1, h2, h4, h5, h6, h7]
  simp only [Cond.before, Cond.holds, Cond.value, he]
  cases v <;> simp_all [Value.isRef]
theorem vx_isRefq {C n d : String} {A : Nat → Prop} {s : State} {args : Array Value} (h : va_Zq C n d A s s.heap) : (Cond.isRef (.static C n d)).before args s = true := by
  rcases h with h | ⟨t, h⟩
  · exact vx_isRef h rfl
  · exact vx_isRef h rfl
/-- the same frame, seen from here: as if the method were called anew in this heap -/
theorem vx_rebase {T : State} (X : Stand p l e R s m args below meth c T locs cells slots) {R' : Room} (hf : R'.frames ≤ R.frames) (hl : R'.locals ≤ R.locals) (hc : cells + R'.cells ≤ R.cells) (hs : slots + R'.slots ≤ R.slots) :
    Stand p l e R' ((T.setVm s.vm).setFrames (.invoking m args :: below)) m args below meth c T [] 0 0 := by
  have htop : (T.setVm s.vm).topJava?.isSome := X.here.top
  have hF : ((T.setVm s.vm).setFrames (.invoking m args :: below)).frames = .invoking m args :: below := State.frames_setFrames _ (State.cur_lt_of_top htop)
  obtain ⟨g₀, hg0⟩ := Option.isSome_iff_exists.mp htop
  obtain ⟨r, hr⟩ := State.topJava?_eq_some.mp hg0
  have hl9 : e.platform.stackLimits (T.setVm s.vm).me = e.platform.stackLimits s.me := X.limits
  have hb9 : (T.setVm s.vm).me.stackBytes = s.me.stackBytes := X.bytes
  refine ⟨X.admits, X.cas, X.clock, hF, ?_, X.hears, X.method, X.code, X.here, X.tail, X.warmed, ?_, ?_, ?_⟩
  · have h := X.room
    have hU : ((T.setVm s.vm).setFrames (.invoking m args :: below)).localsInUse = s.localsInUse := by
      rw [State.localsInUse_invoking hF (meth := meth) (c := c) X.method X.code, State.localsInUse_invoking X.frames X.method X.code]
    simp only [State.hasRoom, Bool.and_eq_true, decide_eq_true_eq] at h ⊢
    obtain ⟨⟨⟨⟨h1, h2, h3, h4, h5, h6⟩, h7⟩, h8⟩, h9⟩ := h
    rw [X.frames, List.length_cons] at h2 h3
    have q1 := X.heapSize
    have q2 := X.used
    simp only [hF, hU, List.length_cons, State.stackLimits_setFrames, State.stackBytes_setFrames, hl9, hb9]
    refine ⟨⟨⟨⟨by omega, by omega, by omega, by omega, by omega, h6⟩, ?_⟩, ?_⟩, X.book⟩
    · show T.heap.size + R'.cells ≤ e.platform.maxCells
      omega
    · show T.slotsUsed + R'.slots ≤ e.platform.maxSlots
      omega
  · rw [State.stackLimits_setFrames]; rfl
  · rw [State.stackBytes_setFrames]; rfl
  · refine ⟨?_, Nat.le_refl _, Nat.le_refl _, ?_, ?_, fun a c9 h9 => ⟨c9, h9, rfl, rfl, fun _ _ => rfl⟩⟩
    · obtain ⟨t, ht, -⟩ := State.frames_cons hr
      show T.setVm s.vm = { ((T.setVm s.vm).setFrames (.invoking m args :: below)).setFrames (T.setVm s.vm).frames with heap := T.heap, slotsUsed := T.slotsUsed }
      rw [State.setFrames_setFrames, State.setFrames_self ht]
      rfl
    · show T.slotsUsed = T.slotsUsed + ((T.heap.toList.drop T.heap.size).map (·.slots.size)).sum
      rw [List.drop_eq_nil_of_le (Nat.le_of_eq Array.length_toList)]
      rfl
    · show ((T.heap.toList.drop T.heap.size).map (·.slots.size)).sum ≤ 0
      rw [List.drop_eq_nil_of_le (Nat.le_of_eq Array.length_toList)]
      exact Nat.le_refl _
/-- 'throw new E()': new; dup; invokespecial; athrow -/
theorem vx_throw0 {cc : ByteArray} {pc : Nat} (hexec : p.tables.exec = Jvm.exec) (hb : c.code = cc) (hl : l.stackTraces = false) {own cls : String} {names : List String} {ik ic mc ms : Nat} {A : Nat → Prop}
    (hown : s.vm.findClass own = some m.cls) (hcls : Bundle.fit cls = true) (hnames : ∀ n ∈ names, Bundle.fit n = true)
    (hk : (Cond.classLink own ik cls).before args s = true) (hini : (Cond.initialized cls).before args s = true) (hat : ∀ w ∈ vx_at0 own ic cls names, w.before args s = true)
    (hgood : ∀ w ∈ Cond.classLink own ik cls :: Cond.initialized cls :: vx_at0 own ic cls names, vx_ot w = true)
    (hU : vx_Zq Bundle.tN "UNASSIGNED_STACK" Bundle.steD A s s.heap) (hN : vx_Zq Bundle.tN "SUPPRESSED_SENTINEL" Bundle.listD A s s.heap) (hS : va_S A s.heap H locs) (hsize : ls.size = c.maxLocals)
    (d0 : decode cc pc = .ok (.new ik, 3)) (d3 : decode cc (pc + 3) = .ok (.dup, 1)) (d4 : decode cc (pc + 4) = .ok (.invokespecial ic, 3)) (d7 : decode cc (pc + 7) = .ok (.athrow, 1))
    (hout : ∀ x ∈ c.exceptionTable.toList, covers x (pc + 7) = false)
    (hRframes : names.length + 3 < R.frames) (hRlocals : (rest.map fun v => v.category).sum + (13 * (names.length + 1) + 42) ≤ R.locals) (hRcells : cells + 1 ≤ R.cells) (hRslots : slots + 6 ≤ R.slots) (hlocks : meth.locks = false)
    (hx : ∀ t : State, s.vm.Alike t.vm → H.size ≤ t.heap.size → (∀ q : Nat, q < H.size → t.heap[q]? = H[q]?) → XC cls s t)
    (hf : ∀ z ∈ locs, free z.base) (hc : cells + 1 ≤ mc) (hs : slots + 6 ≤ ms) :
    W p l e R s m args below meth c H locs cells slots (vx_MQ below Qc XC args s mc ms free) (F0 m pc ls rest) := by
  intro T hT X
  have htr : e.platform.stackTraces = false := (show e.platform.stackTraces = l.stackTraces by rw [X.admits.platform]).trans hl
  have Y := vx_rebase X (R' := { frames := R.frames, locals := R.locals, cells := 1, slots := 6 }) (Nat.le_refl _) (Nat.le_refl _) hRcells hRslots
  obtain ⟨s', hA⟩ : ∃ z, z = (T.setVm s.vm).setFrames (.invoking m args :: below) := ⟨_, rfl⟩
  rw [← hA] at Y
  have hvm : s'.vm = s.vm := by rw [hA]; rfl
  have hhp : s'.heap = H := by rw [hA]; exact hT
  have hW0 : s.WarmedH s'.vm := by rw [hvm]; exact State.WarmedH.refl s
  have hat' : ∀ w ∈ vx_at0 own ic cls names, w.before args s' = true := fun w hw => vx_ot_at hW0 hvm.symm (hgood w (List.mem_cons_of_mem _ (List.mem_cons_of_mem _ hw))) (hat w hw)
  have hk' : (Cond.classLink own ik cls).before args s' = true := vx_ot_at hW0 hvm.symm (hgood _ List.mem_cons_self) hk
  have hini' : (Cond.initialized cls).before args s' = true := vx_ot_at hW0 hvm.symm (hgood _ (List.mem_cons_of_mem _ List.mem_cons_self)) hini
  have hU' : vx_Zq Bundle.tN "UNASSIGNED_STACK" Bundle.steD A s' s'.heap := by rw [hhp]; exact vx_Zq.moved hW0.alike (hU.kept hS.2.1)
  have hN' : vx_Zq Bundle.tN "SUPPRESSED_SENTINEL" Bundle.listD A s' s'.heap := by rw [hhp]; exact vx_Zq.moved hW0.alike (hN.kept hS.2.1)
  have h : ∀ w ∈ Bundle.ownAtoms0 own ic cls names, w.before args s' = true := vx_own hat' (vx_isRefq hU'.1) (vx_isRefq hN'.1) hU'.2.word hN'.2.word
  have hown' : s'.vm.findClass own = some m.cls := by rw [hvm]; exact hown
  have hins : (Cond.instantiable cls 6).before args s' = true := h _ (by simp [Bundle.ownAtoms0])
  obtain ⟨vm₁, cX, kX, hfX, hkX, -, -, X₁, st1⟩ := Y.newCold hexec (own := own) (C := cls) (index := ik) (n := 6) hown' hk' hins hini'
    (g := F0 m pc ls rest) rfl (by rw [hb]; exact d0) (Nat.le_refl _) (Nat.le_refl _)
  generalize hT1 : (T.setVm vm₁).pushCell { cls := cX, slots := kX.instanceTypes.map defaultValue, vm := .none } = T1 at X₁ st1
  have hcat : (Value.ref T.heap.size).category = 1 := rfl
  have hcellA : T1.heap[T.heap.size]? = some (freshCell cX kX) := by rw [← hT1]; exact State.heap_pushCell_size _ _
  have d3' : decode c.code (pc + 3) = .ok (.dup, 1) := by rw [hb]; exact d3
  obtain ⟨U, hsteps, hrun, hend, hW, hsame, ce, hce, hO⟩ := X₁.ctorThrow0 hexec htr (own := own) (cls := cls) (names := names) (ic := ic) hown' hcls hnames h (fun x hx => nomatch hx) hfX hkX hcellA (by rw [hhp, hT]; exact Nat.le_refl _)
    (g := { method := m, pc := pc + 4, locals := ls, stack := .ref T.heap.size :: .ref T.heap.size :: rest, locked := none }) rfl hsize rfl rfl (rest := rest) rfl
    (by rw [hb]; exact d4) (by rw [hb]; exact d7) hout hRframes (by simp only [List.map_cons, List.sum_cons, hcat]; omega) hlocks
  obtain ⟨f1, f2⟩ := vx_frame hsame
  rw [hhp] at f1 f2
  have hWs : s.WarmedH U.vm := State.WarmedH.trans hW0 hW
  have hcl : s.vm.findClass cls = some ce.cls := by
    have h9 := hO.cls
    rw [hvm] at h9
    exact h9
  have hall : s.sameButNew ({ U with vm := s.vm } : State) locs mc ms := by
    subst hA
    obtain ⟨e1, e2⟩ := hsame
    rw [State.setFrames_setFrames] at e1
    have h2 : (T.setVm s.vm).sameButNew ({ U with vm := s.vm } : State) [] (0 + 1) (0 + 6) := ⟨e1, e2⟩
    have h3 := X.same.trans h2
    rw [List.append_nil] at h3
    exact h3.mono hc hs
  refine ⟨U, ?_, .threw T.heap.size, hrun, hend, Or.inr ⟨T.heap.size, rfl, cls, ce, locs, hx U hWs.alike f1 (fun q hq => f2 q hq (fun z hz => nomatch hz)), hce, hO.vm, hcl, hWs, hall, hf⟩⟩
  refine st1 _ ?_
  show Steps p.tables e below (T1.setTop { method := m, pc := pc + 3, locals := ls, stack := .ref T.heap.size :: rest, locked := none }) _
  jvm_step X₁.here [X₁.here.top, hexec, d3', Value.category]
  exact hsteps
/-- 'throw new E("text")': new; dup; ldc; invokespecial; athrow -/
theorem vx_throwS {cc : ByteArray} {pc : Nat} (hexec : p.tables.exec = Jvm.exec) (hb : c.code = cc) (hl : l.stackTraces = false) {own cls text : String} {names : List String} {ik is ic mc ms sa : Nat} {A : Nat → Prop}
    (hown : s.vm.findClass own = some m.cls) (hcls : Bundle.fit cls = true) (hnames : ∀ n ∈ names, Bundle.fit n = true)
    (hk : (Cond.classLink own ik cls).before args s = true) (hini : (Cond.initialized cls).before args s = true) (hstr : vk_R own is text sa s) (hat : ∀ w ∈ vx_atS own ic cls names, w.before args s = true)
    (hgood : ∀ w ∈ Cond.classLink own ik cls :: Cond.initialized cls :: vx_atS own ic cls names, vx_ot w = true)
    (hU : vx_Zq Bundle.tN "UNASSIGNED_STACK" Bundle.steD A s s.heap) (hN : vx_Zq Bundle.tN "SUPPRESSED_SENTINEL" Bundle.listD A s s.heap) (hS : va_S A s.heap H locs) (hsize : ls.size = c.maxLocals)
    (d0 : decode cc pc = .ok (.new ik, 3)) (d3 : decode cc (pc + 3) = .ok (.dup, 1)) (d4 : decode cc (pc + 4) = .ok (.ldc is, 2)) (d6 : decode cc (pc + 6) = .ok (.invokespecial ic, 3)) (d9 : decode cc (pc + 9) = .ok (.athrow, 1))
    (hout : ∀ x ∈ c.exceptionTable.toList, covers x (pc + 9) = false)
    (hRframes : names.length + 3 < R.frames) (hRlocals : (rest.map fun v => v.category).sum + (13 * (names.length + 1) + 43) ≤ R.locals) (hRcells : cells + 1 ≤ R.cells) (hRslots : slots + 6 ≤ R.slots) (hlocks : meth.locks = false)
    (hx : ∀ t : State, s.vm.Alike t.vm → H.size ≤ t.heap.size → (∀ q : Nat, q < H.size → t.heap[q]? = H[q]?) → XC cls s t)
    (hf : ∀ z ∈ locs, free z.base) (hc : cells + 1 ≤ mc) (hs : slots + 6 ≤ ms) :
    W p l e R s m args below meth c H locs cells slots (vx_MQ below Qc XC args s mc ms free) (F0 m pc ls rest) := by
  intro T hT X
  have htr : e.platform.stackTraces = false := (show e.platform.stackTraces = l.stackTraces by rw [X.admits.platform]).trans hl
  have Y := vx_rebase X (R' := { frames := R.frames, locals := R.locals, cells := 1, slots := 6 }) (Nat.le_refl _) (Nat.le_refl _) hRcells hRslots
  obtain ⟨s', hA⟩ : ∃ z, z = (T.setVm s.vm).setFrames (.invoking m args :: below) := ⟨_, rfl⟩
  rw [← hA] at Y
  have hvm : s'.vm = s.vm := by rw [hA]; rfl
  have hhp : s'.heap = H := by rw [hA]; exact hT
  have hW0 : s.WarmedH s'.vm := by rw [hvm]; exact State.WarmedH.refl s
  have hat' : ∀ w ∈ vx_atS own ic cls names, w.before args s' = true := fun w hw => vx_ot_at hW0 hvm.symm (hgood w (List.mem_cons_of_mem _ (List.mem_cons_of_mem _ hw))) (hat w hw)
  have hk' : (Cond.classLink own ik cls).before args s' = true := vx_ot_at hW0 hvm.symm (hgood _ List.mem_cons_self) hk
  have hini' : (Cond.initialized cls).before args s' = true := vx_ot_at hW0 hvm.symm (hgood _ (List.mem_cons_of_mem _ List.mem_cons_self)) hini
  have hU' : vx_Zq Bundle.tN "UNASSIGNED_STACK" Bundle.steD A s' s'.heap := by rw [hhp]; exact vx_Zq.moved hW0.alike (hU.kept hS.2.1)
  have hN' : vx_Zq Bundle.tN "SUPPRESSED_SENTINEL" Bundle.listD A s' s'.heap := by rw [hhp]; exact vx_Zq.moved hW0.alike (hN.kept hS.2.1)
  have h : ∀ w ∈ Bundle.ownAtoms own ic cls names, w.before args s' = true := vx_own hat' (vx_isRefq hU'.1) (vx_isRefq hN'.1) hU'.2.word hN'.2.word
  have hown' : s'.vm.findClass own = some m.cls := by rw [hvm]; exact hown
  have hins : (Cond.instantiable cls 6).before args s' = true := h _ (by simp [Bundle.ownAtoms])
  obtain ⟨vm₁, cX, kX, hfX, hkX, -, -, X₁, st1⟩ := Y.newCold hexec (own := own) (C := cls) (index := ik) (n := 6) hown' hk' hins hini'
    (g := F0 m pc ls rest) rfl (by rw [hb]; exact d0) (Nat.le_refl _) (Nat.le_refl _)
  generalize hT1 : (T.setVm vm₁).pushCell { cls := cX, slots := kX.instanceTypes.map defaultValue, vm := .none } = T1 at X₁ st1
  have hcat : (Value.ref T.heap.size).category = 1 := rfl
  have hcellA : T1.heap[T.heap.size]? = some (freshCell cX kX) := by rw [← hT1]; exact State.heap_pushCell_size _ _
  have d3' : decode c.code (pc + 3) = .ok (.dup, 1) := by rw [hb]; exact d3
  have d4' : decode c.code (pc + 4) = .ok (.ldc is, 2) := by rw [hb]; exact d4
  have hstr' : vk_R own is text sa s' := vk_R.warm hW0 hstr
  obtain ⟨U, hsteps, hrun, hend, hW, hsame, ce, hce, hO⟩ := X₁.ctorThrowS hexec htr (own := own) (cls := cls) (names := names) (ic := ic) hown' hcls hnames h (fun x hx => nomatch hx) hfX hkX hcellA (by rw [hhp, hT]; exact Nat.le_refl _) (msg := .ref sa) rfl
    (g := { method := m, pc := pc + 6, locals := ls, stack := .ref sa :: .ref T.heap.size :: .ref T.heap.size :: rest, locked := none }) rfl hsize rfl rfl (rest := rest) rfl
    (by rw [hb]; exact d6) (by rw [hb]; exact d9) hout hRframes (by simp only [List.map_cons, List.sum_cons, hcat]; omega) hlocks
  obtain ⟨f1, f2⟩ := vx_frame hsame
  rw [hhp] at f1 f2
  have hWs : s.WarmedH U.vm := State.WarmedH.trans hW0 hW
  have hcl : s.vm.findClass cls = some ce.cls := by
    have h9 := hO.cls
    rw [hvm] at h9
    exact h9
  have hall : s.sameButNew ({ U with vm := s.vm } : State) locs mc ms := by
    subst hA
    obtain ⟨e1, e2⟩ := hsame
    rw [State.setFrames_setFrames] at e1
    have h2 : (T.setVm s.vm).sameButNew ({ U with vm := s.vm } : State) [] (0 + 1) (0 + 6) := ⟨e1, e2⟩
    have h3 := X.same.trans h2
    rw [List.append_nil] at h3
    exact h3.mono hc hs
  refine ⟨U, ?_, .threw T.heap.size, hrun, hend, Or.inr ⟨T.heap.size, rfl, cls, ce, locs, hx U hWs.alike f1 (fun q hq => f2 q hq (fun z hz => nomatch hz)), hce, hO.vm, hcl, hWs, hall, hf⟩⟩
  refine st1 _ ?_
  show Steps p.tables e below (T1.setTop { method := m, pc := pc + 3, locals := ls, stack := .ref T.heap.size :: rest, locked := none }) _
  jvm_step X₁.here [X₁.here.top, hexec, d3', Value.category]
  exact X₁.ldcString hexec (own := own) (text := text) (index := is) (a := sa) hown' hstr'.1 hstr'.2
    (g := { method := m, pc := pc + 4, locals := ls, stack := .ref T.heap.size :: .ref T.heap.size :: rest, locked := none }) rfl d4' _ hsteps
/-- 'throw new E("text")', the text by a wide index -/
theorem vx_throwSW {cc : ByteArray} {pc : Nat} (hexec : p.tables.exec = Jvm.exec) (hb : c.code = cc) (hl : l.stackTraces = false) {own cls text : String} {names : List String} {ik is ic mc ms sa : Nat} {A : Nat → Prop}
    (hown : s.vm.findClass own = some m.cls) (hcls : Bundle.fit cls = true) (hnames : ∀ n ∈ names, Bundle.fit n = true)
    (hk : (Cond.classLink own ik cls).before args s = true) (hini : (Cond.initialized cls).before args s = true) (hstr : vk_R own is text sa s) (hat : ∀ w ∈ vx_atS own ic cls names, w.before args s = true)
    (hgood : ∀ w ∈ Cond.classLink own ik cls :: Cond.initialized cls :: vx_atS own ic cls names, vx_ot w = true)
    (hU : vx_Zq Bundle.tN "UNASSIGNED_STACK" Bundle.steD A s s.heap) (hN : vx_Zq Bundle.tN "SUPPRESSED_SENTINEL" Bundle.listD A s s.heap) (hS : va_S A s.heap H locs) (hsize : ls.size = c.maxLocals)
    (d0 : decode cc pc = .ok (.new ik, 3)) (d3 : decode cc (pc + 3) = .ok (.dup, 1)) (d4 : decode cc (pc + 4) = .ok (.ldc_w is, 3)) (d7 : decode cc (pc + 7) = .ok (.invokespecial ic, 3)) (d10 : decode cc (pc + 10) = .ok (.athrow, 1))
    (hout : ∀ x ∈ c.exceptionTable.toList, covers x (pc + 10) = false)
    (hRframes : names.length + 3 < R.frames) (hRlocals : (rest.map fun v => v.category).sum + (13 * (names.length + 1) + 43) ≤ R.locals) (hRcells : cells + 1 ≤ R.cells) (hRslots : slots + 6 ≤ R.slots) (hlocks : meth.locks = false)
    (hx : ∀ t : State, s.vm.Alike t.vm → H.size ≤ t.heap.size → (∀ q : Nat, q < H.size → t.heap[q]? = H[q]?) → XC cls s t)
    (hf : ∀ z ∈ locs, free z.base) (hc : cells + 1 ≤ mc) (hs : slots + 6 ≤ ms) :
    W p l e R s m args below meth c H locs cells slots (vx_MQ below Qc XC args s mc ms free) (F0 m pc ls rest) := by
  intro T hT X
  have htr : e.platform.stackTraces = false := (show e.platform.stackTraces = l.stackTraces by rw [X.admits.platform]).trans hl
  have Y := vx_rebase X (R' := { frames := R.frames, locals := R.locals, cells := 1, slots := 6 }) (Nat.le_refl _) (Nat.le_refl _) hRcells hRslots
  obtain ⟨s', hA⟩ : ∃ z, z = (T.setVm s.vm).setFrames (.invoking m args :: below) := ⟨_, rfl⟩
  rw [← hA] at Y
  have hvm : s'.vm = s.vm := by rw [hA]; rfl
  have hhp : s'.heap = H := by rw [hA]; exact hT
  have hW0 : s.WarmedH s'.vm := by rw [hvm]; exact State.WarmedH.refl s
  have hat' : ∀ w ∈ vx_atS own ic cls names, w.before args s' = true := fun w hw => vx_ot_at hW0 hvm.symm (hgood w (List.mem_cons_of_mem _ (List.mem_cons_of_mem _ hw))) (hat w hw)
  have hk' : (Cond.classLink own ik cls).before args s' = true := vx_ot_at hW0 hvm.symm (hgood _ List.mem_cons_self) hk
  have hini' : (Cond.initialized cls).before args s' = true := vx_ot_at hW0 hvm.symm (hgood _ (List.mem_cons_of_mem _ List.mem_cons_self)) hini
  have hU' : vx_Zq Bundle.tN "UNASSIGNED_STACK" Bundle.steD A s' s'.heap := by rw [hhp]; exact vx_Zq.moved hW0.alike (hU.kept hS.2.1)
  have hN' : vx_Zq Bundle.tN "SUPPRESSED_SENTINEL" Bundle.listD A s' s'.heap := by rw [hhp]; exact vx_Zq.moved hW0.alike (hN.kept hS.2.1)
  have h : ∀ w ∈ Bundle.ownAtoms own ic cls names, w.before args s' = true := vx_own hat' (vx_isRefq hU'.1) (vx_isRefq hN'.1) hU'.2.word hN'.2.word
  have hown' : s'.vm.findClass own = some m.cls := by rw [hvm]; exact hown
  have hins : (Cond.instantiable cls 6).before args s' = true := h _ (by simp [Bundle.ownAtoms])
  obtain ⟨vm₁, cX, kX, hfX, hkX, -, -, X₁, st1⟩ := Y.newCold hexec (own := own) (C := cls) (index := ik) (n := 6) hown' hk' hins hini'
    (g := F0 m pc ls rest) rfl (by rw [hb]; exact d0) (Nat.le_refl _) (Nat.le_refl _)
  generalize hT1 : (T.setVm vm₁).pushCell { cls := cX, slots := kX.instanceTypes.map defaultValue, vm := .none } = T1 at X₁ st1
  have hcat : (Value.ref T.heap.size).category = 1 := rfl
  have hcellA : T1.heap[T.heap.size]? = some (freshCell cX kX) := by rw [← hT1]; exact State.heap_pushCell_size _ _
  have d3' : decode c.code (pc + 3) = .ok (.dup, 1) := by rw [hb]; exact d3
  have d4' : decode c.code (pc + 4) = .ok (.ldc_w is, 3) := by rw [hb]; exact d4
  have hstr' : vk_R own is text sa s' := vk_R.warm hW0 hstr
  obtain ⟨U, hsteps, hrun, hend, hW, hsame, ce, hce, hO⟩ := X₁.ctorThrowS hexec htr (own := own) (cls := cls) (names := names) (ic := ic) hown' hcls hnames h (fun x hx => nomatch hx) hfX hkX hcellA (by rw [hhp, hT]; exact Nat.le_refl _) (msg := .ref sa) rfl
    (g := { method := m, pc := pc + 7, locals := ls, stack := .ref sa :: .ref T.heap.size :: .ref T.heap.size :: rest, locked := none }) rfl hsize rfl rfl (rest := rest) rfl
    (by rw [hb]; exact d7) (by rw [hb]; exact d10) hout hRframes (by simp only [List.map_cons, List.sum_cons, hcat]; omega) hlocks
  obtain ⟨f1, f2⟩ := vx_frame hsame
  rw [hhp] at f1 f2
  have hWs : s.WarmedH U.vm := State.WarmedH.trans hW0 hW
  have hcl : s.vm.findClass cls = some ce.cls := by
    have h9 := hO.cls
    rw [hvm] at h9
    exact h9
  have hall : s.sameButNew ({ U with vm := s.vm } : State) locs mc ms := by
    subst hA
    obtain ⟨e1, e2⟩ := hsame
    rw [State.setFrames_setFrames] at e1
    have h2 : (T.setVm s.vm).sameButNew ({ U with vm := s.vm } : State) [] (0 + 1) (0 + 6) := ⟨e1, e2⟩
    have h3 := X.same.trans h2
    rw [List.append_nil] at h3
    exact h3.mono hc hs
  refine ⟨U, ?_, .threw T.heap.size, hrun, hend, Or.inr ⟨T.heap.size, rfl, cls, ce, locs, hx U hWs.alike f1 (fun q hq => f2 q hq (fun z hz => nomatch hz)), hce, hO.vm, hcl, hWs, hall, hf⟩⟩
  refine st1 _ ?_
  show Steps p.tables e below (T1.setTop { method := m, pc := pc + 3, locals := ls, stack := .ref T.heap.size :: rest, locked := none }) _
  jvm_step X₁.here [X₁.here.top, hexec, d3', Value.category]
  exact X₁.ldcStringW hexec (own := own) (text := text) (index := is) (a := sa) hown' hstr'.1 hstr'.2
    (g := { method := m, pc := pc + 4, locals := ls, stack := .ref T.heap.size :: .ref T.heap.size :: rest, locked := none }) rfl d4' _ hsteps
end Ends
section Bodies
variable {l : Launch}
theorem vx_ofW {y : MethodName} {ws ws' : List Cond} {rm : Room} {Pc : Array Value → State → Prop} {Qc : Array Value → State → Outcome → State → Prop} {XC : String → State → State → Prop} {mc ms : Nat} {free : Addr → Prop} {cc : ByteArray} {maxL : Nat} {ret : Option FieldType}
    (hy : plainName y.cls = true) (hw : ws = Cond.code y cc maxL ret :: ws')
    (body : ∀ p e s m args below meth c s₁, BodyLoose p l y (headSpec ws rm) cc maxL ret e s m args below meth c s₁ → c.maxLocals = maxL → (∀ x ∈ c.exceptionTable.toList, False) → Pc args s →
      W p l e (headSpec ws rm).room s m args below meth c s.heap [] 0 0 (vx_MQ below Qc XC args s mc ms free) (entryFrame m args maxL)) : vx_Met l y ws rm Pc Qc XC mc ms free := by
  refine MetFree.of_bodyS (code := cc) (maxLocals := maxL) (ret := ret) hy ?_ ?_
  · intro args s m h hn
    obtain ⟨meth, c, h1, h2, h3, h4, h5, h6, -, -⟩ := Cond.code_spec hn (atoms_spec (ws := ws) h _ (by rw [hw]; exact List.mem_cons_self))
    exact ⟨meth, c, h1, h2, h3, h4, h5, h6⟩
  · intro p e s m args below meth c s₁ B hml hP _
    have hh0 : s₁.heap = s.heap := by rw [B.state]; rfl
    have ht : ∀ x ∈ c.exceptionTable.toList, False := by
      obtain ⟨meth9, c9, h1, h2, -, -, -, -, h7, -⟩ := Cond.code_spec B.named (atoms_spec (ws := ws) B.pre _ (by rw [hw]; exact List.mem_cons_self))
      cases Option.some.inj (h1.symm.trans B.method)
      cases Option.some.inj (h2.symm.trans (Stand.of_body B).code)
      intro x hx
      rw [Array.isEmpty_iff.mp h7] at hx
      cases hx
    obtain ⟨t, a1, o, b1, b2, b3⟩ := body p e s m args below meth c s₁ B hml ht hP s₁ hh0 (Stand.of_body B)
    exact ⟨t, o, a1, b1, b2, b3⟩
/-- the table of a body with handlers -/
theorem vx_table {p : Program} {x y : MethodName} {S : Spec} {cc bytes : ByteArray} {maxL maxL' : Nat} {ret ret' : Option FieldType} {e : Env} {s s₁ : State} {m : MethodId} {args : Array Value} {below : List Frame} {meth : Method} {c : Code} {hh : List (Nat × Nat × Nat × Nat)}
    (B : BodyLoose p l y S cc maxL ret e s m args below meth c s₁) (h : (Cond.codeWith y bytes maxL' ret' hh).before args s = true) : c.exceptionTable.toList = tableOf hh := by
  obtain ⟨m9, meth9, c9, hn9, h1, h2, -, -, h6, -⟩ := Cond.codeWith_spec h
  cases Option.some.inj (hn9.symm.trans B.named)
  cases Option.some.inj (h1.symm.trans B.method)
  cases Option.some.inj (h2.symm.trans (Stand.of_body B).code)
  rw [← h6, table_eq]
end Bodies
end VXA
/-! ===== END ===== -/
/-! ===== BEGIN a static call of a method with an exception table ===== -/
section VXS
variable {p : Program} {l : Launch} {e : Env} {R : Room} {s : State} {m : MethodId} {args : Array Value} {below : List Frame} {meth : Method} {c : Code} {T : State} {H : Heap} {locs : List Loc} {cells slots : Nat}
abbrev vx_CSW (R : Room) (s : State) (args : Array Value) (own : String) (index : Nat) (y : MethodName) (bytes : ByteArray) (maxL : Nat) (ret : Option FieldType) (hh : List (Nat × Nat × Nat × Nat)) (ws : List Cond) (rm : Room) (mc ms n : Nat) : Prop :=
  (rm.cells = mc ∧ rm.slots = ms ∧ rm.frames + 1 ≤ R.frames ∧ 8 + (maxL + 11) + rm.locals ≤ R.locals ∧ (∀ w ∈ ws, ∀ (a' : Array Value) (U : State), s.WarmedH U.vm → w.before a' U = true) ∧ Cond.codeWith y bytes maxL ret hh ∈ ws) ∧
  (Cond.codeWith y bytes maxL ret hh).before args s = true ∧ (Cond.initialized y.cls).before args s = true ∧ (y.cls ≠ "java/lang/invoke/MethodHandle" ∧ y.cls ≠ "java/lang/invoke/VarHandle") ∧
  (∀ sig, parseMethodDescriptor y.desc = some sig → n = sig.parameters.length) ∧ (Cond.methodLink own index y).before args s = true ∧ (Cond.static y).before args s = true
theorem vx_cwSW {own : String} {index maxL mc ms : Nat} {y : MethodName} {bytes : ByteArray} {ret : Option FieldType} {hh : List (Nat × Nat × Nat × Nat)} {Ts ws ws' : List Cond} {rm : Room} (n : Nat) (ht : ∀ w ∈ Ts, w.before args s = true) (hT : GoodIn Ts (va_wsS own index y ws)) (hw : ws = Cond.codeWith y bytes maxL ret hh :: ws') (hrc : rm.cells = mc) (hrs : rm.slots = ms)
    (hd : y.cls ≠ "java/lang/invoke/MethodHandle" ∧ y.cls ≠ "java/lang/invoke/VarHandle" ∧ (parseMethodDescriptor y.desc).map (fun d => d.parameters.length) = some n) (hR : rm.frames + 1 ≤ R.frames ∧ 8 + (maxL + 11) + rm.locals ≤ R.locals) :
    vx_CSW R s args own index y bytes maxL ret hh ws rm mc ms n := by
  have ok : ∀ w ∈ va_wsS own index y ws, w.before args s = true := fun w h => ht w (hT w h).1
  have hG : GoodIn Ts ws := fun w h => hT w (by unfold va_wsS; exact List.mem_append_right _ h)
  have hc : Cond.codeWith y bytes maxL ret hh ∈ ws := by rw [hw]; exact List.mem_cons_self
  refine ⟨⟨hrc, hrs, hR.1, hR.2, pay_in ht hG, hc⟩, ht _ (hG _ hc).1, ok _ (by simp [va_wsS]), ⟨hd.1, hd.2.1⟩, fun sig h => ?_, ok _ (by simp [va_wsS]), ok _ (by simp [va_wsS])⟩
  have h2 := hd.2.2
  rw [h] at h2
  exact (Option.some.inj h2).symm
theorem vx_callSW (X : Stand p l e R s m args below meth c T locs cells slots) (hexec : p.tables.exec = Jvm.exec) {own : String} {index : Nat} {y : MethodName} {bytes : ByteArray} {maxL : Nat} {ret : Option FieldType} {hh : List (Nat × Nat × Nat × Nat)}
    (hown : s.vm.findClass own = some m.cls) (hlink : (Cond.methodLink own index y).before args s = true) (hstat : (Cond.static y).before args s = true) (hinit : (Cond.initialized y.cls).before args s = true)
    (hcode : (Cond.codeWith y bytes maxL ret hh).before args s = true) (hy : y.cls ≠ "java/lang/invoke/MethodHandle" ∧ y.cls ≠ "java/lang/invoke/VarHandle")
    {W9 : Nat} {Pre : Pt → Array Value → Prop} {Post : Pt → Array Value → Option Value → Pt → Prop} (hK : Back l R p e below s args y 3 W9 Pre Post)
    {g : JFrame} (hg : g.method = m) (hsize : g.locals.size = c.maxLocals) {argsL rest : List Value} (hlen : ∀ sig, parseMethodDescriptor y.desc = some sig → argsL.length = sig.parameters.length)
    (hstack : g.stack = argsL.reverse ++ rest) (hW : 2 * g.monitorRoom + (rest.map fun v => v.category).sum ≤ W9) (hdg : decode c.code g.pc = .ok (.invokestatic index, 3))
    (hpre : ∀ vm₁, s.WarmedH vm₁ → Pre ⟨T.setVm vm₁, locs, cells, slots⟩ argsL.toArray) :
    ∃ (v : Option Value) (vm₁ : Vm) (B : Pt), s.WarmedH vm₁ ∧ Stand p l e R s m args below meth c B.U B.locs B.cells B.slots ∧ Post ⟨T.setVm vm₁, locs, cells, slots⟩ argsL.toArray v B ∧
      ∀ target, Steps p.tables e below (B.U.setTop { g with pc := g.pc + 3, stack := v.toList ++ rest }) target → Steps p.tables e below (T.setTop g) target := by
  obtain ⟨mk, methM, cM, hnamed, hmethM, -, -, -, -, -, -, hsigM⟩ := Cond.codeWith_spec hcode
  have hstatic : methM.isStatic = true := Cond.static_spec hnamed hmethM hstat
  obtain ⟨kP, hkP, -⟩ := className_of_methodNamed hnamed
  have hinitP : kP.init = .initialized := Cond.initialized_spec (findClass_of_methodNamed hnamed) hkP hinit
  obtain ⟨vm₁, X₁, hstep₁⟩ := X.invokestatic hexec hown hlink hnamed hmethM hstatic hkP hinitP hy (g := g) hg (argsL := argsL) (rest := rest) (hlen _ hsigM) hstack hdg
  obtain ⟨v, B, X', hpost, hsteps⟩ := hK m meth c ⟨T.setVm vm₁, locs, cells, slots⟩ { g with stack := rest } (.invokestatic index) mk argsL.toArray X₁ hg hsize hdg hW (X₁.named hnamed) (hpre vm₁ X₁.warmed)
  exact ⟨v, vm₁, B, X₁.warmed, X', hpost, fun target h => hstep₁ _ fun acts => by rw [doInvoke_state]; exact hsteps.trans h⟩
theorem vx_runSW {y : MethodName} {bytes cc : ByteArray} {maxL nL mc ms n index : Nat} {ret : Option FieldType} {hh : List (Nat × Nat × Nat × Nat)} {ws : List Cond} {rm : Room} {Pc : Array Value → State → Prop} {Qc : Array Value → State → Outcome → State → Prop} {free : Addr → Prop} {Ts : List Cond} {own : String} {As rest : List Value} {g : JFrame}
    (S : CallFix p m c cc nL s args Ts own) (hM : Met l y ws rm Pc Qc mc ms free) (cw : vx_CSW R s args own index y bytes maxL ret hh ws rm mc ms n) (hp : PreS s H Pc As)
    (hg : g.method = m) (hn : As.length = n) (hsize : g.locals.size = nL) (hstack : g.stack = As.reverse ++ rest) (hW : 2 * g.monitorRoom + (rest.map fun v => v.category).sum ≤ 8) (hdg : decode cc g.pc = .ok (.invokestatic index, 3)) (hf : cells + mc ≤ R.cells ∧ slots + ms ≤ R.slots) :
    va_Run p l e R s m args below meth c H locs cells slots mc ms g rest (Qc As.toArray) (free) := by
  obtain ⟨⟨hrc, hrs, hfr, hlo, hws, hcw⟩, hcode, hini, hy, hlen, hl, hstt⟩ := cw
  have hK : Back l R p e below s args y 3 8 (PreOf R mc ms Pc) (PostOf Qc mc ms free) := va_backW (hh := hh) (bytes := bytes) (maxL := maxL) (ret := ret) hM hp.1 hrc hrs hfr hlo hws hcw (fun a' U hW => word_at hW (Or.inl (by first | rfl | simp [Cond.onTables, Cond.keeps, Cond.steady])) hini)
  obtain ⟨hx, hb, hml, ho, -⟩ := S
  intro T hT X
  obtain ⟨v, vm₁, ⟨U', l2, c2, s2⟩, hW₁, X', ⟨g', mk, t, L, e1, e2, hq, h1, hL, h2, h3⟩, st⟩ := vx_callSW X hx (hh := hh) (bytes := bytes) (maxL := maxL) (ret := ret) ho hl hstt hini hcode hy hK hg (hsize.trans hml.symm) (argsL := As) (rest := rest) (fun sig h => hn.trans (hlen sig h)) hstack hW (by rw [hb]; exact hdg)
    (fun vm₁ hW₁ => ⟨hf.1, hf.2, hp.2 (T.setVm vm₁) hT hW₁⟩)
  dsimp only [Pt.U, Pt.locs, Pt.cells, Pt.slots] at X' e1 e2 h1 h2 h3 st
  subst h1; subst h2; subst h3
  exact ⟨v, (T.setVm vm₁).calling g' mk As.toArray, t, U', L, hT, X', hL, e1, e2, hq, st⟩
/-- not caught here, past rows that name other classes: it goes on to the caller -/
theorem vx_outP {p : Program} {l : Launch} {e : Env} {R : Room} {s : State} {m : MethodId} {args : Array Value} {below : List Frame} {meth : Method} {c : Code} {H : Heap} {locs : List Loc} {cells slots : Nat} {free : Addr → Prop} {ls : Array Slot} {rest : List Value} {Qc : Array Value → State → Outcome → State → Prop} {XC : String → State → State → Prop}
    {pc : Nat} {own E : String} {ce : Cell} {q : Addr} {mc ms : Nat} (hown : s.vm.findClass own = some m.cls) (hlocks : meth.locks = false)
    (hpass : ∀ z ∈ c.exceptionTable.toList, covers z pc = false ∨ (z.catchType ≠ 0 ∧ ∃ nm : String, (Cond.classLink own z.catchType nm).before args s = true ∧ va_Nc E nm s)) (hcell : H[q]? = some ce) (hv : ce.vm = .none) (hcl : s.vm.findClass E = some ce.cls)
    (hx : ∀ t : State, t.heap = H → s.vm.Alike t.vm → XC E s t) (hf : ∀ z ∈ locs, free z.base) (hc : cells ≤ mc) (hs : slots ≤ ms) :
    vx_W p l e R s m args below meth c H locs cells slots (vx_MQ below Qc XC args s mc ms free) (F0 m pc ls rest) q := by
  intro T hT X
  have hpl : e.platform.magicAccessors = ({} : Platform).magicAccessors := by rw [X.admits.platform]
  obtain ⟨vm', hW', X', st⟩ := X.outThrough hlocks q (g := F0 m pc ls rest) rfl rfl rfl (cell := ce) (by rw [hT]; exact hcell) (by rw [hv]; rfl)
    (by obtain ⟨k9, h9, -⟩ := Vm.findClass_spec hcl; exact ⟨k9, h9⟩) (fun z hz => by
      rcases hpass z hz with h | ⟨hz0, nm, hl1, hn1⟩
      · exact Or.inl h
      · obtain ⟨c6, hc6, hcl6⟩ := Cond.classLink_spec hown hl1 e.platform hpl
        obtain ⟨a8, b8, h1, h2, h3⟩ := hn1
        cases Option.some.inj (h1.symm.trans hcl)
        cases Option.some.inj (h2.symm.trans hc6)
        exact Or.inr ⟨hz0, _, hcl6, h3⟩)
  obtain ⟨g₀, hfr⟩ := X'.frames_eq
  have hcell9 : ((T.setVm vm').setFrames (.throwing q :: below)).heap[q]? = some ce := by
    show T.heap[q]? = some ce
    rw [hT]; exact hcell
  have hend : Ended ((T.setVm vm').setFrames (.throwing q :: below)) below (.threw q) := State.frames_setFrames _ (State.cur_lt_of_frames hfr)
  refine ⟨(T.setVm vm').setFrames (.throwing q :: below), ?_, .threw q, X'.here.running, hend, Or.inr ⟨q, rfl, E, ce, locs, hx _ hT (X'.ends _).1.alike, hcell9, hv, hcl, (X'.ends _).1, (X'.ends _).2.mono hc hs, hf⟩⟩
  rw [X.pushThrowing_eq]
  exact st
/-- a thing of a world lies in the heap -/
theorem vx_lt {D : va_G} {cl : List vw_C} {ws : va_W} {H1 : Heap} (h : va_P D cl ws H1) {k : Nat} {q : Nat × va_E} (hk : ws[k]? = some q) : q.1 < H1.size := (h k q hk).lt
end VXS
/-! ===== END ===== -/
/-! ===== BEGIN methods with a table of their own: called by a name, returning or throwing ===== -/
section VXH
/-! vx_backW, vx_callVX, vx_callSX, vx_callVW, vx_runVW, vx_runVX, vx_runSX, vx_ofWH follow the same proofs as their sisters above (Free/Laws.lean, Shelf42/LK1.lean); vx_outP calls Shelf42/NT130.lean (outThrough). -/
section
variable {l : Launch} {R : Room} {p : Program} {e : Env} {below : List Frame} {s : State} {sargs : Array Value} {y : MethodName} {len W9 : Nat}
theorem vx_backW {ws : List Cond} {rm : Room} {Pc : Array Value → State → Prop} {Qc : Array Value → State → Outcome → State → Prop} {XC : String → State → State → Prop} {mc ms : Nat} {free : Addr → Prop} {bytes : ByteArray} {maxL : Nat} {ret : Option FieldType} {hh : List (Nat × Nat × Nat × Nat)}
    (hM : vx_Met l y ws rm Pc Qc XC mc ms free) (hblind : FrameBlind Pc) (hrc : rm.cells = mc) (hrs : rm.slots = ms)
    (hframes : rm.frames + 1 ≤ R.frames) (hlocals : W9 + (maxL + 11) + rm.locals ≤ R.locals)
    (hws : ∀ w ∈ ws, ∀ a' U, s.WarmedH U.vm → w.before a' U = true) (hcode : Cond.codeWith y bytes maxL ret hh ∈ ws) (hinit : ∀ a' U, s.WarmedH U.vm → (Cond.initialized y.cls).before a' U = true) :
    vx_Back l R p e below s sargs y len W9 (PreOf R mc ms Pc) (PostOf Qc mc ms free) (vx_Post XC mc ms free) := by
  intro m meth c A g ig mk a X hg hsize hdg hW hn hp
  have h1 : (headSpec ws rm).pre.before a A.U = true := atoms_intro fun w hw => hws w hw _ _ X.warmed
  have h2 : (Cond.codeWith y bytes maxL ret hh).before a A.U = true := hws _ hcode _ _ X.warmed
  have h3 : (Cond.initialized y.cls).before a A.U = true := hinit _ _ X.warmed
  have h4 : A.cells + (headSpec ws rm).room.cells ≤ R.cells := by rw [show (headSpec ws rm).room.cells = mc from hrc]; exact hp.1
  have h5 : A.slots + (headSpec ws rm).room.slots ≤ R.slots := by rw [show (headSpec ws rm).room.slots = ms from hrs]; exact hp.2.1
  have hPc : Pc a (A.U.calling g mk a) := hblind _ _ _ _ hp.2.2
  obtain ⟨U, Ls, c0, s0⟩ := A
  dsimp only [Pt.U, Pt.locs, Pt.cells, Pt.slots] at h1 h2 h3 h4 h5 X hn hPc ⊢
  obtain ⟨m9, methY, cY, hn9, hmY, hcY, -, hlY, -⟩ := Cond.codeWith_spec h2
  cases Option.some.inj (hn9.symm.trans hn)
  obtain ⟨kY, hkY, -⟩ := className_of_methodNamed hn
  have hinitY : kY.init = .initialized := Cond.initialized_spec (findClass_of_methodNamed hn) hkY h3
  have h : At U g.method c below := by rw [hg]; exact X.here
  have hlocals9 : W9 + (maxL + 11) + (headSpec ws rm).room.locals ≤ R.locals := hlocals
  have happ : (headSpec ws rm).appliesLoose y e.platform (U.calling g mk a) = true :=
    Spec.appliesLoose_calling (g := g) h hdg hn hkY hinitY
      (X.room_calling (g := g) (R' := (headSpec ws rm).room) hsize hmY hcY hframes (by rw [hlY]; omega) h4 h5) h1
  obtain ⟨mid, hmid⟩ := h.above
  have hfr : (U.setTop g).frames = (.java g :: mid) ++ below := by rw [State.frames_setTop' g h.top, hmid]; rfl
  obtain ⟨o, s₂, hsteps, -, hend, hq⟩ := Steps.callFree hM p X.admits X.cas X.clock (acts := []) hfr happ hPc trivial
  have hq' : vx_Q Qc XC mc ms free a (U.calling g mk a) o s₂ := hq
  rw [State.frames_setTop' g h.top] at hend
  obtain ⟨g₀, hg0⟩ := Option.isSome_iff_exists.mp h.top
  obtain ⟨r, hr⟩ := State.topJava?_eq_some.mp hg0
  have hr' : (({ U with heap := s₂.heap, slotsUsed := s₂.slotsUsed } : State).setVm s₂.vm).frames = .java g₀ :: r := hr
  rcases hq' with ⟨hqc, L, hfe, hL⟩ | ⟨q, rfl, E, ce, L, hx, hce, hcv, hcl, hW₂, hsm, hL⟩
  · obtain ⟨⟨v, rfl⟩, hW₂, e2, q2, q3, q4, q5, q6⟩ := id hfe
    have e3 : s₂ = ({ (U.calling g mk a).setFrames s₂.frames with heap := s₂.heap, slotsUsed := s₂.slotsUsed } : State).setVm s₂.vm := by
      have : s₂ = ({ s₂ with vm := (U.calling g mk a).vm } : State).setVm s₂.vm := rfl
      rw [e2] at this
      exact this
    obtain ⟨c₂, i₂, len₂, hc₂, hd₂, hf₂⟩ := hend
    have hW' : U.WarmedH s₂.vm := hW₂
    have hcc : c₂ = c := by
      have h1 : s₂.code? g.method = U.code? g.method := by
        rw [State.code?_eq, State.code?_eq, hW'.alike.method?]
      exact Option.some.inj (hc₂.symm.trans (h1.trans h.code))
    subst hcc
    have hlen : len₂ = len := by rw [hdg] at hd₂; cases hd₂; rfl
    subst hlen
    have hs₂ : s₂ = (({ U with heap := s₂.heap, slotsUsed := s₂.slotsUsed } : State).setVm s₂.vm).setTop { g with pc := g.pc + len₂, stack := v.toList ++ g.stack } := by
      refine e3.trans ?_
      rw [hf₂, State.calling_eq h.top, State.setFrames_setFrames, State.setTop_of_frames _ hr', hr]
      rfl
    have hsame : U.sameButNew ({ U with heap := s₂.heap, slotsUsed := s₂.slotsUsed } : State) L mc ms := by
      refine ⟨?_, q2, q3, q4, q5, q6⟩
      obtain ⟨t, ht, -⟩ := State.frames_cons hr
      show ({ U with heap := s₂.heap, slotsUsed := s₂.slotsUsed } : State) = { U.setFrames U.frames with heap := s₂.heap, slotsUsed := s₂.slotsUsed }
      rw [State.setFrames_self ht]
    subst hg
    refine Or.inl ⟨v, ⟨(({ U with heap := s₂.heap, slotsUsed := s₂.slotsUsed } : State).setVm s₂.vm), Ls ++ L, c0 + mc, s0 + ms⟩,
      ⟨X.admits, X.cas, X.clock, X.frames, X.room, X.hears, X.method, X.code, (X.here.setHeapUsed s₂.heap s₂.slotsUsed).setVm hW'.alike, X.tail, State.WarmedH.trans X.warmed hW', X.limits, X.bytes, X.same.trans (hsame.setVm s.vm)⟩,
      ⟨g, mk, s₂, L, rfl, rfl, hqc, rfl, hL, rfl, rfl⟩, ?_⟩
    show Steps p.tables e below _ ((({ U with heap := s₂.heap, slotsUsed := s₂.slotsUsed } : State).setVm s₂.vm).setTop { g with pc := g.pc + len₂, stack := v.toList ++ g.stack })
    rw [← hs₂]
    exact hsteps
  · obtain ⟨e2, q2, q3, q4, q5, q6⟩ := id hsm
    have e3 : s₂ = ({ (U.calling g mk a).setFrames s₂.frames with heap := s₂.heap, slotsUsed := s₂.slotsUsed } : State).setVm s₂.vm := by
      have : s₂ = ({ s₂ with vm := (U.calling g mk a).vm } : State).setVm s₂.vm := rfl
      rw [e2] at this
      exact this
    have hf₂ : s₂.frames = .throwing q :: .java g :: U.frames.tail := hend
    have hW' : U.WarmedH s₂.vm := hW₂
    have hs₂ : s₂ = ((({ U with heap := s₂.heap, slotsUsed := s₂.slotsUsed } : State).setVm s₂.vm).setTop g).pushFrame (.throwing q) := by
      refine e3.trans ?_
      rw [hf₂, State.calling_eq h.top, State.setFrames_setFrames, State.pushFrame, State.frames_setTop _ hr', State.setTop_of_frames _ hr', State.setFrames_setFrames, hr]
      rfl
    have hsame : U.sameButNew ({ U with heap := s₂.heap, slotsUsed := s₂.slotsUsed } : State) L mc ms := by
      refine ⟨?_, q2, q3, q4, q5, q6⟩
      obtain ⟨t, ht, -⟩ := State.frames_cons hr
      show ({ U with heap := s₂.heap, slotsUsed := s₂.slotsUsed } : State) = { U.setFrames U.frames with heap := s₂.heap, slotsUsed := s₂.slotsUsed }
      rw [State.setFrames_self ht]
    subst hg
    refine Or.inr ⟨q, ⟨(({ U with heap := s₂.heap, slotsUsed := s₂.slotsUsed } : State).setVm s₂.vm), Ls ++ L, c0 + mc, s0 + ms⟩,
      ⟨X.admits, X.cas, X.clock, X.frames, X.room, X.hears, X.method, X.code, (X.here.setHeapUsed s₂.heap s₂.slotsUsed).setVm hW'.alike, X.tail, State.WarmedH.trans X.warmed hW', X.limits, X.bytes, X.same.trans (hsame.setVm s.vm)⟩,
      ⟨g, mk, s₂, L, E, ce, rfl, rfl, hx, hce, hcv, hcl, rfl, hL, rfl, rfl⟩, ?_⟩
    show Steps p.tables e below _ (((({ U with heap := s₂.heap, slotsUsed := s₂.slotsUsed } : State).setVm s₂.vm).setTop g).pushFrame (.throwing q))
    rw [← hs₂]
    exact hsteps
end
variable {p : Program} {l : Launch} {e : Env} {R : Room} {s : State} {m : MethodId} {args : Array Value} {below : List Frame} {meth : Method} {c : Code} {T : State} {H : Heap} {locs : List Loc} {cells slots : Nat}
theorem vx_callVX (X : Stand p l e R s m args below meth c T locs cells slots) (hexec : p.tables.exec = Jvm.exec) {own C : String} {index : Nat} {y : MethodName} {bytes : ByteArray} {maxL : Nat} {ret : Option FieldType} {hh : List (Nat × Nat × Nat × Nat)}
    (hown : s.vm.findClass own = some m.cls) (hlink : (Cond.methodLink own index y).before args s = true) (hinst : (Cond.instanceMethod y).before args s = true) (hsel : (Cond.selects C y y).before args s = true)
    (hcode : (Cond.codeWith y bytes maxL ret hh).before args s = true) (hy : y.cls ≠ "java/lang/invoke/MethodHandle" ∧ y.cls ≠ "java/lang/invoke/VarHandle")
    {W9 : Nat} {Pre : Pt → Array Value → Prop} {Post : Pt → Array Value → Option Value → Pt → Prop} {PostX : Pt → Array Value → Addr → Pt → Prop} (hK : vx_Back l R p e below s args y 3 W9 Pre Post PostX)
    {b : Addr} {cellB : Cell} (hcell : T.heap[b]? = some cellB) (hobj : cellB.vm.isStatics = false) (hcls : s.vm.findClass C = some cellB.cls)
    {g : JFrame} (hg : g.method = m) (hsize : g.locals.size = c.maxLocals) {argsL rest : List Value} (hlen : ∀ sig, parseMethodDescriptor y.desc = some sig → argsL.length = sig.parameters.length)
    (hstack : g.stack = argsL.reverse ++ .ref b :: rest) (hW : 2 * g.monitorRoom + (rest.map fun v => v.category).sum ≤ W9) (hdg : decode c.code g.pc = .ok (.invokevirtual index, 3))
    (hpre : ∀ vm₁, s.WarmedH vm₁ → Pre ⟨T.setVm vm₁, locs, cells, slots⟩ (Value.ref b :: argsL).toArray) :
    (∃ (v : Option Value) (vm₁ : Vm) (B : Pt), s.WarmedH vm₁ ∧ Stand p l e R s m args below meth c B.U B.locs B.cells B.slots ∧ Post ⟨T.setVm vm₁, locs, cells, slots⟩ (Value.ref b :: argsL).toArray v B ∧
      ∀ target, Steps p.tables e below (B.U.setTop { g with pc := g.pc + 3, stack := v.toList ++ rest }) target → Steps p.tables e below (T.setTop g) target) ∨
    (∃ (q : Addr) (vm₁ : Vm) (B : Pt), s.WarmedH vm₁ ∧ Stand p l e R s m args below meth c B.U B.locs B.cells B.slots ∧ PostX ⟨T.setVm vm₁, locs, cells, slots⟩ (Value.ref b :: argsL).toArray q B ∧
      Steps p.tables e below (T.setTop g) ((B.U.setTop { g with stack := rest }).pushFrame (.throwing q))) := by
  obtain ⟨mk, methM, hnamed, hmethM, hstM, habM⟩ := Cond.instanceMethod_spec hinst
  obtain ⟨m8, methM', cM, hn8, hmethM', -, -, -, -, -, -, hsigM⟩ := Cond.codeWith_spec hcode
  cases Option.some.inj (hn8.symm.trans hnamed)
  cases hmethM.symm.trans hmethM'
  obtain ⟨c2, r2, m2, q1, q2, q3, q4, kP, hkP, hkPi⟩ := Cond.selects_spec hsel
  cases hcls.symm.trans q1
  cases (State.methodFound?_of_named hnamed hy).symm.trans q2
  cases hnamed.symm.trans q3
  have hselP : selectMethod e.platform s.vm cellB.cls mk = .method mk := by rw [Launch.admits_selectMethod X.admits]; exact q4
  obtain ⟨vm₁, X₁, hstep₁⟩ := X.invokevirtual hexec hown hlink hnamed hmethM hstM hkP hkPi hy (a := b) (cell := cellB) hcell
    (fun z h => by rw [h] at hobj; cases hobj) hselP hmethM habM hkP hkPi (g := g) hg (argsL := argsL) (rest := rest) (hlen _ hsigM) hstack hdg
  rcases hK m meth c ⟨T.setVm vm₁, locs, cells, slots⟩ { g with stack := rest } (.invokevirtual index) mk (Value.ref b :: argsL).toArray X₁ hg hsize hdg hW (X₁.named hnamed) (hpre vm₁ X₁.warmed) with ⟨v, B, X', hpost, hsteps⟩ | ⟨q, B, X', hpost, hsteps⟩
  · exact Or.inl ⟨v, vm₁, B, X₁.warmed, X', hpost, fun target h => hstep₁ _ fun acts => by rw [doInvoke_state]; exact hsteps.trans h⟩
  · exact Or.inr ⟨q, vm₁, B, X₁.warmed, X', hpost, hstep₁ _ fun acts => by rw [doInvoke_state]; exact hsteps⟩
theorem vx_callSX (X : Stand p l e R s m args below meth c T locs cells slots) (hexec : p.tables.exec = Jvm.exec) {own : String} {index : Nat} {y : MethodName} {bytes : ByteArray} {maxL : Nat} {ret : Option FieldType} {hh : List (Nat × Nat × Nat × Nat)}
    (hown : s.vm.findClass own = some m.cls) (hlink : (Cond.methodLink own index y).before args s = true) (hstat : (Cond.static y).before args s = true) (hinit : (Cond.initialized y.cls).before args s = true)
    (hcode : (Cond.codeWith y bytes maxL ret hh).before args s = true) (hy : y.cls ≠ "java/lang/invoke/MethodHandle" ∧ y.cls ≠ "java/lang/invoke/VarHandle")
    {W9 : Nat} {Pre : Pt → Array Value → Prop} {Post : Pt → Array Value → Option Value → Pt → Prop} {PostX : Pt → Array Value → Addr → Pt → Prop} (hK : vx_Back l R p e below s args y 3 W9 Pre Post PostX)
    {g : JFrame} (hg : g.method = m) (hsize : g.locals.size = c.maxLocals) {argsL rest : List Value} (hlen : ∀ sig, parseMethodDescriptor y.desc = some sig → argsL.length = sig.parameters.length)
    (hstack : g.stack = argsL.reverse ++ rest) (hW : 2 * g.monitorRoom + (rest.map fun v => v.category).sum ≤ W9) (hdg : decode c.code g.pc = .ok (.invokestatic index, 3))
    (hpre : ∀ vm₁, s.WarmedH vm₁ → Pre ⟨T.setVm vm₁, locs, cells, slots⟩ argsL.toArray) :
    (∃ (v : Option Value) (vm₁ : Vm) (B : Pt), s.WarmedH vm₁ ∧ Stand p l e R s m args below meth c B.U B.locs B.cells B.slots ∧ Post ⟨T.setVm vm₁, locs, cells, slots⟩ argsL.toArray v B ∧
      ∀ target, Steps p.tables e below (B.U.setTop { g with pc := g.pc + 3, stack := v.toList ++ rest }) target → Steps p.tables e below (T.setTop g) target) ∨
    (∃ (q : Addr) (vm₁ : Vm) (B : Pt), s.WarmedH vm₁ ∧ Stand p l e R s m args below meth c B.U B.locs B.cells B.slots ∧ PostX ⟨T.setVm vm₁, locs, cells, slots⟩ argsL.toArray q B ∧
      Steps p.tables e below (T.setTop g) ((B.U.setTop { g with stack := rest }).pushFrame (.throwing q))) := by
  obtain ⟨mk, methM, cM, hnamed, hmethM, -, -, -, -, -, -, hsigM⟩ := Cond.codeWith_spec hcode
  have hstatic : methM.isStatic = true := Cond.static_spec hnamed hmethM hstat
  obtain ⟨kP, hkP, -⟩ := className_of_methodNamed hnamed
  have hinitP : kP.init = .initialized := Cond.initialized_spec (findClass_of_methodNamed hnamed) hkP hinit
  obtain ⟨vm₁, X₁, hstep₁⟩ := X.invokestatic hexec hown hlink hnamed hmethM hstatic hkP hinitP hy (g := g) hg (argsL := argsL) (rest := rest) (hlen _ hsigM) hstack hdg
  rcases hK m meth c ⟨T.setVm vm₁, locs, cells, slots⟩ { g with stack := rest } (.invokestatic index) mk argsL.toArray X₁ hg hsize hdg hW (X₁.named hnamed) (hpre vm₁ X₁.warmed) with ⟨v, B, X', hpost, hsteps⟩ | ⟨q, B, X', hpost, hsteps⟩
  · exact Or.inl ⟨v, vm₁, B, X₁.warmed, X', hpost, fun target h => hstep₁ _ fun acts => by rw [doInvoke_state]; exact hsteps.trans h⟩
  · exact Or.inr ⟨q, vm₁, B, X₁.warmed, X', hpost, hstep₁ _ fun acts => by rw [doInvoke_state]; exact hsteps⟩
theorem vx_callVW (X : Stand p l e R s m args below meth c T locs cells slots) (hexec : p.tables.exec = Jvm.exec) {own C : String} {index : Nat} {y : MethodName} {bytes : ByteArray} {maxL : Nat} {ret : Option FieldType} {hh : List (Nat × Nat × Nat × Nat)}
    (hown : s.vm.findClass own = some m.cls) (hlink : (Cond.methodLink own index y).before args s = true) (hinst : (Cond.instanceMethod y).before args s = true) (hsel : (Cond.selects C y y).before args s = true)
    (hcode : (Cond.codeWith y bytes maxL ret hh).before args s = true) (hy : y.cls ≠ "java/lang/invoke/MethodHandle" ∧ y.cls ≠ "java/lang/invoke/VarHandle")
    {W9 : Nat} {Pre : Pt → Array Value → Prop} {Post : Pt → Array Value → Option Value → Pt → Prop} (hK : Back l R p e below s args y 3 W9 Pre Post)
    {b : Addr} {cellB : Cell} (hcell : T.heap[b]? = some cellB) (hobj : cellB.vm.isStatics = false) (hcls : s.vm.findClass C = some cellB.cls)
    {g : JFrame} (hg : g.method = m) (hsize : g.locals.size = c.maxLocals) {argsL rest : List Value} (hlen : ∀ sig, parseMethodDescriptor y.desc = some sig → argsL.length = sig.parameters.length)
    (hstack : g.stack = argsL.reverse ++ .ref b :: rest) (hW : 2 * g.monitorRoom + (rest.map fun v => v.category).sum ≤ W9) (hdg : decode c.code g.pc = .ok (.invokevirtual index, 3))
    (hpre : ∀ vm₁, s.WarmedH vm₁ → Pre ⟨T.setVm vm₁, locs, cells, slots⟩ (Value.ref b :: argsL).toArray) :
    ∃ (v : Option Value) (vm₁ : Vm) (B : Pt), s.WarmedH vm₁ ∧ Stand p l e R s m args below meth c B.U B.locs B.cells B.slots ∧ Post ⟨T.setVm vm₁, locs, cells, slots⟩ (Value.ref b :: argsL).toArray v B ∧
      ∀ target, Steps p.tables e below (B.U.setTop { g with pc := g.pc + 3, stack := v.toList ++ rest }) target → Steps p.tables e below (T.setTop g) target := by
  obtain ⟨mk, methM, hnamed, hmethM, hstM, habM⟩ := Cond.instanceMethod_spec hinst
  obtain ⟨m8, methM', cM, hn8, hmethM', -, -, -, -, -, -, hsigM⟩ := Cond.codeWith_spec hcode
  cases Option.some.inj (hn8.symm.trans hnamed)
  cases hmethM.symm.trans hmethM'
  obtain ⟨c2, r2, m2, q1, q2, q3, q4, kP, hkP, hkPi⟩ := Cond.selects_spec hsel
  cases hcls.symm.trans q1
  cases (State.methodFound?_of_named hnamed hy).symm.trans q2
  cases hnamed.symm.trans q3
  have hselP : selectMethod e.platform s.vm cellB.cls mk = .method mk := by rw [Launch.admits_selectMethod X.admits]; exact q4
  obtain ⟨vm₁, X₁, hstep₁⟩ := X.invokevirtual hexec hown hlink hnamed hmethM hstM hkP hkPi hy (a := b) (cell := cellB) hcell
    (fun z h => by rw [h] at hobj; cases hobj) hselP hmethM habM hkP hkPi (g := g) hg (argsL := argsL) (rest := rest) (hlen _ hsigM) hstack hdg
  obtain ⟨v, B, X', hpost, hsteps⟩ := hK m meth c ⟨T.setVm vm₁, locs, cells, slots⟩ { g with stack := rest } (.invokevirtual index) mk (Value.ref b :: argsL).toArray X₁ hg hsize hdg hW (X₁.named hnamed) (hpre vm₁ X₁.warmed)
  exact ⟨v, vm₁, B, X₁.warmed, X', hpost, fun target h => hstep₁ _ fun acts => by rw [doInvoke_state]; exact hsteps.trans h⟩
abbrev vx_CVW (R : Room) (s : State) (args : Array Value) (own C : String) (index : Nat) (y : MethodName) (bytes : ByteArray) (maxL : Nat) (ret : Option FieldType) (hh : List (Nat × Nat × Nat × Nat)) (ws : List Cond) (rm : Room) (mc ms n : Nat) : Prop :=
  (rm.cells = mc ∧ rm.slots = ms ∧ rm.frames + 1 ≤ R.frames ∧ 8 + (maxL + 11) + rm.locals ≤ R.locals ∧ (∀ w ∈ ws, ∀ (a' : Array Value) (U : State), s.WarmedH U.vm → w.before a' U = true) ∧ Cond.codeWith y bytes maxL ret hh ∈ ws) ∧
  (Cond.codeWith y bytes maxL ret hh).before args s = true ∧ (Cond.initialized y.cls).before args s = true ∧ (y.cls ≠ "java/lang/invoke/MethodHandle" ∧ y.cls ≠ "java/lang/invoke/VarHandle") ∧
  (∀ sig, parseMethodDescriptor y.desc = some sig → n = sig.parameters.length) ∧ (Cond.methodLink own index y).before args s = true ∧ (Cond.instanceMethod y).before args s = true ∧ (Cond.selects C y y).before args s = true
theorem vx_cwVW {own C : String} {index maxL mc ms : Nat} {y : MethodName} {bytes : ByteArray} {ret : Option FieldType} {hh : List (Nat × Nat × Nat × Nat)} {Ts ws ws' : List Cond} {rm : Room} (n : Nat) (ht : ∀ w ∈ Ts, w.before args s = true) (hT : GoodIn Ts (wsV own index C y ws)) (hw : ws = Cond.codeWith y bytes maxL ret hh :: ws') (hrc : rm.cells = mc) (hrs : rm.slots = ms)
    (hd : y.cls = C ∧ y.cls ≠ "java/lang/invoke/MethodHandle" ∧ y.cls ≠ "java/lang/invoke/VarHandle" ∧ (parseMethodDescriptor y.desc).map (fun d => d.parameters.length) = some n) (hR : rm.frames + 1 ≤ R.frames ∧ 8 + (maxL + 11) + rm.locals ≤ R.locals) :
    vx_CVW R s args own C index y bytes maxL ret hh ws rm mc ms n := by
  obtain ⟨hC, hd⟩ := hd
  subst hC
  have ok : ∀ w ∈ wsV own index y.cls y ws, w.before args s = true := fun w h => ht w (hT w h).1
  have hG : GoodIn Ts ws := fun w h => hT w (by unfold wsV; exact List.mem_append_right _ h)
  have hc : Cond.codeWith y bytes maxL ret hh ∈ ws := by rw [hw]; exact List.mem_cons_self
  refine ⟨⟨hrc, hrs, hR.1, hR.2, pay_in ht hG, hc⟩, ht _ (hG _ hc).1, ok _ (by simp [wsV]), ⟨hd.1, hd.2.1⟩, fun sig h => ?_, ok _ (by simp [wsV]), ok _ (by simp [wsV]), ok _ (by simp [wsV])⟩
  have h2 := hd.2.2
  rw [h] at h2
  exact (Option.some.inj h2).symm
theorem vx_runVW {y : MethodName} {bytes cc : ByteArray} {maxL nL mc ms n index : Nat} {ret : Option FieldType} {hh : List (Nat × Nat × Nat × Nat)} {ws : List Cond} {rm : Room} {Pc : Array Value → State → Prop} {Qc : Array Value → State → Outcome → State → Prop} {free : Addr → Prop} {Ts : List Cond} {own C : String} {b : Addr} {As rest : List Value} {g : JFrame}
    (S : CallFix p m c cc nL s args Ts own) (hM : Met l y ws rm Pc Qc mc ms free) (cw : vx_CVW R s args own C index y bytes maxL ret hh ws rm mc ms n) (hp : PreV s H C b Pc As)
    (hg : g.method = m) (hn : As.length = n) (hsize : g.locals.size = nL) (hstack : g.stack = As.reverse ++ .ref b :: rest) (hW : 2 * g.monitorRoom + (rest.map fun v => v.category).sum ≤ 8) (hdg : decode cc g.pc = .ok (.invokevirtual index, 3)) (hf : cells + mc ≤ R.cells ∧ slots + ms ≤ R.slots) :
    va_Run p l e R s m args below meth c H locs cells slots mc ms g rest (Qc (Value.ref b :: As).toArray) free := by
  obtain ⟨⟨hrc, hrs, hfr, hlo, hws, hcw⟩, hcode, hini, hy, hlen, hl, hin, hse⟩ := cw
  have hK : Back l R p e below s args y 3 8 (PreOf R mc ms Pc) (PostOf Qc mc ms free) := va_backW (hh := hh) (bytes := bytes) (maxL := maxL) (ret := ret) hM hp.1 hrc hrs hfr hlo hws hcw (fun a' U hW => word_at hW (Or.inl (by first | rfl | simp [Cond.onTables, Cond.keeps, Cond.steady])) hini)
  obtain ⟨hx, hb, hml, ho, -⟩ := S
  obtain ⟨-, ⟨cellB, hcB, hoB, hclB⟩, hPc⟩ := hp
  intro T hT X
  obtain ⟨v, vm₁, ⟨U', l2, c2, s2⟩, hW₁, X', ⟨g', mk, t, L, e1, e2, hq, h1, hL, h2, h3⟩, st⟩ := vx_callVW X hx (C := C) (hh := hh) (bytes := bytes) (maxL := maxL) (ret := ret) ho hl hin hse hcode hy hK (by rw [hT]; exact hcB) hoB hclB hg (hsize.trans hml.symm) (argsL := As) (rest := rest) (fun sig h => hn.trans (hlen sig h)) hstack hW (by rw [hb]; exact hdg)
    (fun vm₁ hW₁ => ⟨hf.1, hf.2, hPc (T.setVm vm₁) hT hW₁⟩)
  dsimp only [Pt.U, Pt.locs, Pt.cells, Pt.slots] at X' e1 e2 h1 h2 h3 st
  subst h1; subst h2; subst h3
  exact ⟨v, (T.setVm vm₁).calling g' mk (Value.ref b :: As).toArray, t, U', L, hT, X', hL, e1, e2, hq, st⟩
section
variable {y : MethodName} {bytes cc : ByteArray} {maxL nL mc ms n index : Nat} {ret : Option FieldType} {ws : List Cond} {rm : Room} {Pc : Array Value → State → Prop} {Qc : Array Value → State → Outcome → State → Prop} {XC : String → State → State → Prop} {free : Addr → Prop} {Ts : List Cond} {own C : String} {b : Addr} {As rest : List Value} {g : JFrame}
theorem vx_runVX {hh : List (Nat × Nat × Nat × Nat)} (S : CallFix p m c cc nL s args Ts own) (hM : vx_Met l y ws rm Pc Qc XC mc ms free) (cw : vx_CVW R s args own C index y bytes maxL ret hh ws rm mc ms n) (hp : PreV s H C b Pc As)
    (hg : g.method = m) (hn : As.length = n) (hsize : g.locals.size = nL) (hstack : g.stack = As.reverse ++ .ref b :: rest) (hW : 2 * g.monitorRoom + (rest.map fun v => v.category).sum ≤ 8) (hdg : decode cc g.pc = .ok (.invokevirtual index, 3)) (hf : cells + mc ≤ R.cells ∧ slots + ms ≤ R.slots) :
    vx_Run p l e R s m args below meth c H locs cells slots mc ms g rest (Qc (Value.ref b :: As).toArray) XC free := by
  obtain ⟨⟨hrc, hrs, hfr, hlo, hws, hcw⟩, hcode, hini, hy, hlen, hl, hin, hse⟩ := cw
  have hK : vx_Back l R p e below s args y 3 8 (PreOf R mc ms Pc) (PostOf Qc mc ms free) (vx_Post XC mc ms free) := vx_backW (hh := hh) (bytes := bytes) (maxL := maxL) (ret := ret) hM hp.1 hrc hrs hfr hlo hws hcw (fun a' U hW => word_at hW (Or.inl (by first | rfl | simp [Cond.onTables, Cond.keeps, Cond.steady])) hini)
  obtain ⟨hx, hb, hml, ho, -⟩ := S
  obtain ⟨-, ⟨cellB, hcB, hoB, hclB⟩, hPc⟩ := hp
  intro T hT X
  rcases vx_callVX X hx (C := C) (hh := hh) (bytes := bytes) (maxL := maxL) (ret := ret) ho hl hin hse hcode hy hK (by rw [hT]; exact hcB) hoB hclB hg (hsize.trans hml.symm) (argsL := As) (rest := rest) (fun sig h => hn.trans (hlen sig h)) hstack hW (by rw [hb]; exact hdg)
    (fun vm₁ hW₁ => ⟨hf.1, hf.2, hPc (T.setVm vm₁) hT hW₁⟩) with ⟨v, vm₁, ⟨U', l2, c2, s2⟩, hW₁, X', ⟨g', mk, t, L, e1, e2, hq, h1, hL, h2, h3⟩, st⟩ | ⟨q, vm₁, ⟨U', l2, c2, s2⟩, hW₁, X', ⟨g', mk, t, L, E, ce, e1, e2, hq, hce, hcv, hcl, h1, hL, h2, h3⟩, st⟩
  · dsimp only [Pt.U, Pt.locs, Pt.cells, Pt.slots] at X' e1 e2 h1 h2 h3 st
    subst h1; subst h2; subst h3
    exact Or.inl ⟨v, (T.setVm vm₁).calling g' mk (Value.ref b :: As).toArray, t, U', L, hT, X', hL, e1, e2, hq, st⟩
  · dsimp only [Pt.U, Pt.locs, Pt.cells, Pt.slots] at X' e1 e2 h1 h2 h3 st hcl
    subst h1; subst h2; subst h3
    exact Or.inr ⟨q, (T.setVm vm₁).calling g' mk (Value.ref b :: As).toArray, t, U', L, E, ce, hT, X', hL, e1, e2, hq, hce, hcv, vx_cls hW₁ hcl, st⟩
theorem vx_runSX {hh : List (Nat × Nat × Nat × Nat)} (S : CallFix p m c cc nL s args Ts own) (hM : vx_Met l y ws rm Pc Qc XC mc ms free) (cw : vx_CSW R s args own index y bytes maxL ret hh ws rm mc ms n) (hp : PreS s H Pc As)
    (hg : g.method = m) (hn : As.length = n) (hsize : g.locals.size = nL) (hstack : g.stack = As.reverse ++ rest) (hW : 2 * g.monitorRoom + (rest.map fun v => v.category).sum ≤ 8) (hdg : decode cc g.pc = .ok (.invokestatic index, 3)) (hf : cells + mc ≤ R.cells ∧ slots + ms ≤ R.slots) :
    vx_Run p l e R s m args below meth c H locs cells slots mc ms g rest (Qc As.toArray) XC free := by
  obtain ⟨⟨hrc, hrs, hfr, hlo, hws, hcw⟩, hcode, hini, hy, hlen, hl, hstt⟩ := cw
  have hK : vx_Back l R p e below s args y 3 8 (PreOf R mc ms Pc) (PostOf Qc mc ms free) (vx_Post XC mc ms free) := vx_backW (hh := hh) (bytes := bytes) (maxL := maxL) (ret := ret) hM hp.1 hrc hrs hfr hlo hws hcw (fun a' U hW => word_at hW (Or.inl (by first | rfl | simp [Cond.onTables, Cond.keeps, Cond.steady])) hini)
  obtain ⟨hx, hb, hml, ho, -⟩ := S
  intro T hT X
  rcases vx_callSX X hx (hh := hh) (bytes := bytes) (maxL := maxL) (ret := ret) ho hl hstt hini hcode hy hK hg (hsize.trans hml.symm) (argsL := As) (rest := rest) (fun sig h => hn.trans (hlen sig h)) hstack hW (by rw [hb]; exact hdg)
    (fun vm₁ hW₁ => ⟨hf.1, hf.2, hp.2 (T.setVm vm₁) hT hW₁⟩) with ⟨v, vm₁, ⟨U', l2, c2, s2⟩, hW₁, X', ⟨g', mk, t, L, e1, e2, hq, h1, hL, h2, h3⟩, st⟩ | ⟨q, vm₁, ⟨U', l2, c2, s2⟩, hW₁, X', ⟨g', mk, t, L, E, ce, e1, e2, hq, hce, hcv, hcl, h1, hL, h2, h3⟩, st⟩
  · dsimp only [Pt.U, Pt.locs, Pt.cells, Pt.slots] at X' e1 e2 h1 h2 h3 st
    subst h1; subst h2; subst h3
    exact Or.inl ⟨v, (T.setVm vm₁).calling g' mk As.toArray, t, U', L, hT, X', hL, e1, e2, hq, st⟩
  · dsimp only [Pt.U, Pt.locs, Pt.cells, Pt.slots] at X' e1 e2 h1 h2 h3 st hcl
    subst h1; subst h2; subst h3
    exact Or.inr ⟨q, (T.setVm vm₁).calling g' mk As.toArray, t, U', L, E, ce, hT, X', hL, e1, e2, hq, hce, hcv, vx_cls hW₁ hcl, st⟩
end
end VXH
theorem vx_ofWH {l : Launch} {y : MethodName} {ws ws' : List Cond} {rm : Room} {Pc : Array Value → State → Prop} {Qc : Array Value → State → Outcome → State → Prop} {XC : String → State → State → Prop} {mc ms : Nat} {free : Addr → Prop} {cc : ByteArray} {maxL : Nat} {ret : Option FieldType} {hh : List (Nat × Nat × Nat × Nat)}
    (hy : plainName y.cls = true) (hw : ws = Cond.codeWith y cc maxL ret hh :: ws')
    (body : ∀ p e s m args below meth c s₁, BodyLoose p l y (headSpec ws rm) cc maxL ret e s m args below meth c s₁ → c.maxLocals = maxL → Pc args s →
      W p l e (headSpec ws rm).room s m args below meth c s.heap [] 0 0 (vx_MQ below Qc XC args s mc ms free) (entryFrame m args maxL)) : vx_Met l y ws rm Pc Qc XC mc ms free := by
  refine MetFree.of_bodyS (code := cc) (maxLocals := maxL) (ret := ret) hy ?_ ?_
  · intro args s m h hn
    obtain ⟨m9, meth, c, hn9, h1, h2, h3, h4, -, h5, h6, -⟩ := Cond.codeWith_spec (atoms_spec (ws := ws) h _ (by rw [hw]; exact List.mem_cons_self))
    cases hn.symm.trans hn9
    exact ⟨meth, c, h1, h2, h3, h4, h5, h6⟩
  · intro p e s m args below meth c s₁ B hml hP _
    have hh0 : s₁.heap = s.heap := by rw [B.state]; rfl
    obtain ⟨t, a1, o, b1, b2, b3⟩ := body p e s m args below meth c s₁ B hml hP s₁ hh0 (Stand.of_body B)
    exact ⟨t, o, a1, b1, b2, b3⟩
/-! ===== END ===== -/
end
section
/-! ===== BEGIN printed: names, fields, word lists, decode rows ===== -/
def RX0 : String := "SecretBroker$Audit"
def TX0 : u_T := fun k => match k with
  | 0 => ("SecretBroker$Audit", "kinds", "[I", true)
  | 1 => ("SecretBroker$Audit", "subjects", "[I", true)
  | 2 => ("SecretBroker$Audit", "details", "[I", true)
  | 3 => ("SecretBroker$Audit", "sums", "[J", true)
  | _ => ("SecretBroker$Audit", "count", "I", false)
def tyX0 : Nat → FieldType := fun k => match k with
  | 0 => .array .int
  | 1 => .array .int
  | 2 => .array .int
  | 3 => .array .long
  | _ => .int
abbrev wsX00 : List Cond := u_ws RX0 TX0 5
theorem nmX0 : ∀ a, a < 5 → ∀ b, b < 5 → a ≠ b → (TX0 a).2.1 ≠ (TX0 b).2.1 := by decide +kernel
theorem tyX0_ok : ∀ k, k < 5 → parseFieldDescriptor (TX0 k).2.2.1 = some (tyX0 k) := by decide +kernel
abbrev cX0_init : ByteArray := prog_2_method_1_code
def yX0_init : MethodName := ⟨RX0, "<init>", "()V"⟩
abbrev cX0_count : ByteArray := prog_2_method_2_code
def yX0_count : MethodName := ⟨RX0, "count", "()I"⟩
abbrev cX0_has : ByteArray := prog_2_method_3_code
def yX0_has : MethodName := ⟨RX0, "has", "(I)Z"⟩
abbrev cX0_write : ByteArray := prog_2_method_4_code
def yX0_write : MethodName := ⟨RX0, "write", "(IIII)V"⟩
abbrev cX0_kindAt : ByteArray := prog_2_method_5_code
def yX0_kindAt : MethodName := ⟨RX0, "kindAt", "(I)I"⟩
abbrev cX0_subjectAt : ByteArray := prog_2_method_6_code
def yX0_subjectAt : MethodName := ⟨RX0, "subjectAt", "(I)I"⟩
abbrev cX0_detailAt : ByteArray := prog_2_method_7_code
def yX0_detailAt : MethodName := ⟨RX0, "detailAt", "(I)I"⟩
abbrev cX0_sumAt : ByteArray := prog_2_method_8_code
def yX0_sumAt : MethodName := ⟨RX0, "sumAt", "(I)J"⟩
def RX1 : String := "SecretBroker$Credentials"
def TX1 : u_T := fun k => match k with
  | 0 => ("SecretBroker$Leased", "beginnings", "[I", true)
  | 1 => ("SecretBroker$Leased", "ends", "[I", true)
  | 2 => ("SecretBroker$Leased", "bounds", "[I", true)
  | 3 => ("SecretBroker$Leased", "on", "[Z", true)
  | 4 => ("SecretBroker$Leased", "made", "I", false)
  | 5 => ("SecretBroker$Leased", "living", "I", false)
  | 6 => ("SecretBroker$Credentials", "owners", "[I", true)
  | _ => ("SecretBroker$Credentials", "paths", "[I", true)
def tyX1 : Nat → FieldType := fun k => match k with
  | 0 => .array .int
  | 1 => .array .int
  | 2 => .array .int
  | 3 => .array .boolean
  | 4 => .int
  | 5 => .int
  | 6 => .array .int
  | _ => .array .int
abbrev wsX10 : List Cond := u_ws RX1 TX1 8
theorem nmX1 : ∀ a, a < 8 → ∀ b, b < 8 → a ≠ b → (TX1 a).2.1 ≠ (TX1 b).2.1 := by decide +kernel
theorem tyX1_ok : ∀ k, k < 8 → parseFieldDescriptor (TX1 k).2.2.1 = some (tyX1 k) := by decide +kernel
abbrev cX1_init : ByteArray := prog_3_method_1_code
def yX1_init : MethodName := ⟨RX1, "<init>", "()V"⟩
abbrev cX1_describe : ByteArray := prog_3_method_2_code
def yX1_describe : MethodName := ⟨RX1, "describe", "(III)V"⟩
abbrev cX1_ownerAt : ByteArray := prog_3_method_3_code
def yX1_ownerAt : MethodName := ⟨RX1, "ownerAt", "(I)I"⟩
abbrev cX1_livingOf : ByteArray := prog_3_method_4_code
def yX1_livingOf : MethodName := ⟨RX1, "livingOf", "(I)I"⟩
abbrev cX1_endBelow : ByteArray := prog_3_method_5_code
def yX1_endBelow : MethodName := ⟨RX1, "endBelow", "(I)I"⟩
abbrev cX1_endOfEnded : ByteArray := prog_3_method_6_code
def yX1_endOfEnded : MethodName := ⟨RX1, "endOfEnded", "(LSecretBroker$Tokens;)I"⟩
def RX2 : String := "SecretBroker$Leased"
def TX2 : u_T := fun k => match k with
  | _ => ("", "", "", false)
def tyX2 : Nat → FieldType := fun k => match k with
  | _ => .int
abbrev wsX20 : List Cond := u_ws RX2 TX2 0
theorem nmX2 : ∀ a, a < 0 → ∀ b, b < 0 → a ≠ b → (TX2 a).2.1 ≠ (TX2 b).2.1 := by decide +kernel
theorem tyX2_ok : ∀ k, k < 0 → parseFieldDescriptor (TX2 k).2.2.1 = some (tyX2 k) := by decide +kernel
abbrev cX2_init : ByteArray := prog_4_method_1_code
def yX2_init : MethodName := ⟨RX2, "<init>", "()V"⟩
abbrev cX2_made : ByteArray := prog_4_method_2_code
def yX2_made : MethodName := ⟨RX2, "made", "()I"⟩
abbrev cX2_living : ByteArray := prog_4_method_3_code
def yX2_living : MethodName := ⟨RX2, "living", "()I"⟩
abbrev cX2_isFull : ByteArray := prog_4_method_4_code
def yX2_isFull : MethodName := ⟨RX2, "isFull", "()Z"⟩
abbrev cX2_has : ByteArray := prog_4_method_5_code
def yX2_has : MethodName := ⟨RX2, "has", "(I)Z"⟩
abbrev cX2_isOn : ByteArray := prog_4_method_6_code
def yX2_isOn : MethodName := ⟨RX2, "isOn", "(I)Z"⟩
abbrev cX2_endAt : ByteArray := prog_4_method_7_code
def yX2_endAt : MethodName := ⟨RX2, "endAt", "(I)I"⟩
abbrev cX2_add : ByteArray := prog_4_method_8_code
def yX2_add : MethodName := ⟨RX2, "add", "(III)I"⟩
abbrev cX2_prolong : ByteArray := prog_4_method_9_code
def yX2_prolong : MethodName := ⟨RX2, "prolong", "(III)V"⟩
abbrev cX2_end : ByteArray := prog_4_method_10_code
def yX2_end : MethodName := ⟨RX2, "end", "(I)I"⟩
abbrev cX2_endByTime : ByteArray := prog_4_method_11_code
def yX2_endByTime : MethodName := ⟨RX2, "endByTime", "(I)I"⟩
abbrev cX2_firstEnd : ByteArray := prog_4_method_12_code
def yX2_firstEnd : MethodName := ⟨RX2, "firstEnd", "()I"⟩
def RX3 : String := "SecretBroker$Mounts"
def TX3 : u_T := fun k => match k with
  | 0 => ("SecretBroker$Mounts", "paths", "[I", true)
  | 1 => ("SecretBroker$Mounts", "minutes", "[I", true)
  | 2 => ("SecretBroker$Mounts", "bounds", "[I", true)
  | _ => ("SecretBroker$Mounts", "count", "I", false)
def tyX3 : Nat → FieldType := fun k => match k with
  | 0 => .array .int
  | 1 => .array .int
  | 2 => .array .int
  | _ => .int
abbrev wsX30 : List Cond := u_ws RX3 TX3 4
theorem nmX3 : ∀ a, a < 4 → ∀ b, b < 4 → a ≠ b → (TX3 a).2.1 ≠ (TX3 b).2.1 := by decide +kernel
theorem tyX3_ok : ∀ k, k < 4 → parseFieldDescriptor (TX3 k).2.2.1 = some (tyX3 k) := by decide +kernel
abbrev cX3_init : ByteArray := prog_5_method_1_code
def yX3_init : MethodName := ⟨RX3, "<init>", "()V"⟩
abbrev cX3_count : ByteArray := prog_5_method_2_code
def yX3_count : MethodName := ⟨RX3, "count", "()I"⟩
abbrev cX3_has : ByteArray := prog_5_method_3_code
def yX3_has : MethodName := ⟨RX3, "has", "(I)Z"⟩
abbrev cX3_find : ByteArray := prog_5_method_4_code
def yX3_find : MethodName := ⟨RX3, "find", "(I)I"⟩
abbrev cX3_put : ByteArray := prog_5_method_5_code
def yX3_put : MethodName := ⟨RX3, "put", "(III)V"⟩
abbrev cX3_nearest : ByteArray := prog_5_method_6_code
def yX3_nearest : MethodName := ⟨RX3, "nearest", "(I)I"⟩
abbrev cX3_minutesAt : ByteArray := prog_5_method_7_code
def yX3_minutesAt : MethodName := ⟨RX3, "minutesAt", "(I)I"⟩
abbrev cX3_boundAt : ByteArray := prog_5_method_8_code
def yX3_boundAt : MethodName := ⟨RX3, "boundAt", "(I)I"⟩
def RX4 : String := "SecretBroker$Paths"
def TX4 : u_T := fun k => match k with
  | _ => ("", "", "", false)
def tyX4 : Nat → FieldType := fun k => match k with
  | _ => .int
abbrev wsX40 : List Cond := u_ws RX4 TX4 0
theorem nmX4 : ∀ a, a < 0 → ∀ b, b < 0 → a ≠ b → (TX4 a).2.1 ≠ (TX4 b).2.1 := by decide +kernel
theorem tyX4_ok : ∀ k, k < 0 → parseFieldDescriptor (TX4 k).2.2.1 = some (tyX4 k) := by decide +kernel
abbrev cX4_isPath : ByteArray := prog_6_method_2_code
def yX4_isPath : MethodName := ⟨RX4, "isPath", "(I)Z"⟩
abbrev cX4_isPattern : ByteArray := prog_6_method_3_code
def yX4_isPattern : MethodName := ⟨RX4, "isPattern", "(I)Z"⟩
abbrev cX4_hasDigits : ByteArray := prog_6_method_4_code
def yX4_hasDigits : MethodName := ⟨RX4, "hasDigits", "(II)Z"⟩
abbrev cX4_length : ByteArray := prog_6_method_5_code
def yX4_length : MethodName := ⟨RX4, "length", "(I)I"⟩
abbrev cX4_withoutLast : ByteArray := prog_6_method_6_code
def yX4_withoutLast : MethodName := ⟨RX4, "withoutLast", "(II)I"⟩
abbrev cX4_isBelow : ByteArray := prog_6_method_7_code
def yX4_isBelow : MethodName := ⟨RX4, "isBelow", "(II)Z"⟩
abbrev cX4_fits : ByteArray := prog_6_method_8_code
def yX4_fits : MethodName := ⟨RX4, "fits", "(IZI)Z"⟩
def RX5 : String := "SecretBroker$Policies"
def TX5 : u_T := fun k => match k with
  | 0 => ("SecretBroker$Policies", "ruleCounts", "[I", true)
  | 1 => ("SecretBroker$Policies", "patterns", "[I", true)
  | 2 => ("SecretBroker$Policies", "opens", "[Z", true)
  | 3 => ("SecretBroker$Policies", "sets", "[I", true)
  | _ => ("SecretBroker$Policies", "count", "I", false)
def tyX5 : Nat → FieldType := fun k => match k with
  | 0 => .array .int
  | 1 => .array .int
  | 2 => .array .boolean
  | 3 => .array .int
  | _ => .int
abbrev wsX50 : List Cond := u_ws RX5 TX5 5
theorem nmX5 : ∀ a, a < 5 → ∀ b, b < 5 → a ≠ b → (TX5 a).2.1 ≠ (TX5 b).2.1 := by decide +kernel
theorem tyX5_ok : ∀ k, k < 5 → parseFieldDescriptor (TX5 k).2.2.1 = some (tyX5 k) := by decide +kernel
abbrev cX5_init : ByteArray := prog_7_method_1_code
def yX5_init : MethodName := ⟨RX5, "<init>", "()V"⟩
abbrev cX5_count : ByteArray := prog_7_method_2_code
def yX5_count : MethodName := ⟨RX5, "count", "()I"⟩
abbrev cX5_has : ByteArray := prog_7_method_3_code
def yX5_has : MethodName := ⟨RX5, "has", "(I)Z"⟩
abbrev cX5_hasAll : ByteArray := prog_7_method_4_code
def yX5_hasAll : MethodName := ⟨RX5, "hasAll", "(I)Z"⟩
abbrev cX5_add : ByteArray := prog_7_method_5_code
def yX5_add : MethodName := ⟨RX5, "add", "()I"⟩
abbrev cX5_rulesOf : ByteArray := prog_7_method_6_code
def yX5_rulesOf : MethodName := ⟨RX5, "rulesOf", "(I)I"⟩
abbrev cX5_find : ByteArray := prog_7_method_8_code
def yX5_find : MethodName := ⟨RX5, "find", "(IIZ)I"⟩
abbrev cX5_put : ByteArray := prog_7_method_9_code
def yX5_put : MethodName := ⟨RX5, "put", "(IIZI)V"⟩
abbrev cX5_addRule : ByteArray := prog_7_method_10_code
def yX5_addRule : MethodName := ⟨RX5, "addRule", "(I)I"⟩
abbrev cX5_together : ByteArray := prog_7_method_11_code
def yX5_together : MethodName := ⟨RX5, "together", "(II)I"⟩
abbrev cX5_decided : ByteArray := prog_7_method_12_code
def yX5_decided : MethodName := ⟨RX5, "decided", "(II)I"⟩
abbrev cX5_goesAhead : ByteArray := prog_7_method_13_code
def yX5_goesAhead : MethodName := ⟨RX5, "goesAhead", "(II)Z"⟩
def RX6 : String := "SecretBroker$Tokens"
def TX6 : u_T := fun k => match k with
  | 0 => ("SecretBroker$Leased", "beginnings", "[I", true)
  | 1 => ("SecretBroker$Leased", "ends", "[I", true)
  | 2 => ("SecretBroker$Leased", "bounds", "[I", true)
  | 3 => ("SecretBroker$Leased", "on", "[Z", true)
  | 4 => ("SecretBroker$Leased", "made", "I", false)
  | 5 => ("SecretBroker$Leased", "living", "I", false)
  | 6 => ("SecretBroker$Tokens", "parents", "[I", true)
  | 7 => ("SecretBroker$Tokens", "policySets", "[I", true)
  | _ => ("SecretBroker$Tokens", "uses", "[I", true)
def tyX6 : Nat → FieldType := fun k => match k with
  | 0 => .array .int
  | 1 => .array .int
  | 2 => .array .int
  | 3 => .array .boolean
  | 4 => .int
  | 5 => .int
  | 6 => .array .int
  | 7 => .array .int
  | _ => .array .int
abbrev wsX60 : List Cond := u_ws RX6 TX6 9
theorem nmX6 : ∀ a, a < 9 → ∀ b, b < 9 → a ≠ b → (TX6 a).2.1 ≠ (TX6 b).2.1 := by decide +kernel
theorem tyX6_ok : ∀ k, k < 9 → parseFieldDescriptor (TX6 k).2.2.1 = some (tyX6 k) := by decide +kernel
abbrev cX6_init : ByteArray := prog_8_method_1_code
def yX6_init : MethodName := ⟨RX6, "<init>", "()V"⟩
abbrev cX6_describe : ByteArray := prog_8_method_2_code
def yX6_describe : MethodName := ⟨RX6, "describe", "(IIII)V"⟩
abbrev cX6_parentAt : ByteArray := prog_8_method_3_code
def yX6_parentAt : MethodName := ⟨RX6, "parentAt", "(I)I"⟩
abbrev cX6_policiesAt : ByteArray := prog_8_method_4_code
def yX6_policiesAt : MethodName := ⟨RX6, "policiesAt", "(I)I"⟩
abbrev cX6_usesAt : ByteArray := prog_8_method_5_code
def yX6_usesAt : MethodName := ⟨RX6, "usesAt", "(I)I"⟩
abbrev cX6_takeUse : ByteArray := prog_8_method_6_code
def yX6_takeUse : MethodName := ⟨RX6, "takeUse", "(I)V"⟩
abbrev cX6_freeChildren : ByteArray := prog_8_method_7_code
def yX6_freeChildren : MethodName := ⟨RX6, "freeChildren", "(I)V"⟩
abbrev cX6_endBelowEnded : ByteArray := prog_8_method_8_code
def yX6_endBelowEnded : MethodName := ⟨RX6, "endBelowEnded", "()I"⟩
abbrev cX6_livingBelow : ByteArray := prog_8_method_9_code
def yX6_livingBelow : MethodName := ⟨RX6, "livingBelow", "(I)I"⟩
abbrev cX6_hangsBelow : ByteArray := prog_8_method_10_code
def yX6_hangsBelow : MethodName := ⟨RX6, "hangsBelow", "(II)Z"⟩
def RX7 : String := "SecretBroker"
def TX7 : u_T := fun k => match k with
  | 0 => ("SecretBroker", "policyTable", "LSecretBroker$Policies;", true)
  | 1 => ("SecretBroker", "mountTable", "LSecretBroker$Mounts;", true)
  | 2 => ("SecretBroker", "tokenTable", "LSecretBroker$Tokens;", true)
  | 3 => ("SecretBroker", "credentialTable", "LSecretBroker$Credentials;", true)
  | 4 => ("SecretBroker", "audit", "LSecretBroker$Audit;", true)
  | _ => ("SecretBroker", "now", "I", false)
def tyX7 : Nat → FieldType := fun k => match k with
  | 0 => .object "SecretBroker$Policies"
  | 1 => .object "SecretBroker$Mounts"
  | 2 => .object "SecretBroker$Tokens"
  | 3 => .object "SecretBroker$Credentials"
  | 4 => .object "SecretBroker$Audit"
  | _ => .int
abbrev wsX70 : List Cond := u_ws RX7 TX7 6
theorem nmX7 : ∀ a, a < 6 → ∀ b, b < 6 → a ≠ b → (TX7 a).2.1 ≠ (TX7 b).2.1 := by decide +kernel
theorem tyX7_ok : ∀ k, k < 6 → parseFieldDescriptor (TX7 k).2.2.1 = some (tyX7 k) := by decide +kernel
abbrev cX7_init : ByteArray := prog_1_method_1_code
def yX7_init : MethodName := ⟨RX7, "<init>", "()V"⟩
abbrev cX7_policy : ByteArray := prog_1_method_2_code
def yX7_policy : MethodName := ⟨RX7, "policy", "()I"⟩
abbrev cX7_allow : ByteArray := prog_1_method_3_code
def yX7_allow : MethodName := ⟨RX7, "allow", "(IIZI)I"⟩
abbrev cX7_mount : ByteArray := prog_1_method_5_code
def yX7_mount : MethodName := ⟨RX7, "mount", "(III)I"⟩
abbrev cX7_create : ByteArray := prog_1_method_6_code
def yX7_create : MethodName := ⟨RX7, "create", "(IIIII)I"⟩
abbrev cX7_renew : ByteArray := prog_1_method_7_code
def yX7_renew : MethodName := ⟨RX7, "renew", "(II)I"⟩
abbrev cX7_revoke : ByteArray := prog_1_method_8_code
def yX7_revoke : MethodName := ⟨RX7, "revoke", "(I)I"⟩
abbrev cX7_revokeAlone : ByteArray := prog_1_method_9_code
def yX7_revokeAlone : MethodName := ⟨RX7, "revokeAlone", "(I)I"⟩
abbrev cX7_isAlive : ByteArray := prog_1_method_10_code
def yX7_isAlive : MethodName := ⟨RX7, "isAlive", "(I)Z"⟩
abbrev cX7_parentOf : ByteArray := prog_1_method_11_code
def yX7_parentOf : MethodName := ⟨RX7, "parentOf", "(I)I"⟩
abbrev cX7_endOf : ByteArray := prog_1_method_12_code
def yX7_endOf : MethodName := ⟨RX7, "endOf", "(I)I"⟩
abbrev cX7_usesLeft : ByteArray := prog_1_method_13_code
def yX7_usesLeft : MethodName := ⟨RX7, "usesLeft", "(I)I"⟩
abbrev cX7_below : ByteArray := prog_1_method_14_code
def yX7_below : MethodName := ⟨RX7, "below", "(I)I"⟩
abbrev cX7_tokens : ByteArray := prog_1_method_15_code
def yX7_tokens : MethodName := ⟨RX7, "tokens", "()I"⟩
abbrev cX7_capabilities : ByteArray := prog_1_method_16_code
def yX7_capabilities : MethodName := ⟨RX7, "capabilities", "(II)I"⟩
abbrev cX7_request : ByteArray := prog_1_method_17_code
def yX7_request : MethodName := ⟨RX7, "request", "(II)I"⟩
abbrev cX7_whyDenied : ByteArray := prog_1_method_18_code
def yX7_whyDenied : MethodName := ⟨RX7, "whyDenied", "(II)I"⟩
abbrev cX7_renewCredential : ByteArray := prog_1_method_19_code
def yX7_renewCredential : MethodName := ⟨RX7, "renewCredential", "(II)I"⟩
abbrev cX7_revokeBelow : ByteArray := prog_1_method_20_code
def yX7_revokeBelow : MethodName := ⟨RX7, "revokeBelow", "(I)I"⟩
abbrev cX7_works : ByteArray := prog_1_method_21_code
def yX7_works : MethodName := ⟨RX7, "works", "(I)Z"⟩
abbrev cX7_endOfCredential : ByteArray := prog_1_method_22_code
def yX7_endOfCredential : MethodName := ⟨RX7, "endOfCredential", "(I)I"⟩
abbrev cX7_credentials : ByteArray := prog_1_method_23_code
def yX7_credentials : MethodName := ⟨RX7, "credentials", "()I"⟩
abbrev cX7_credentialsOf : ByteArray := prog_1_method_24_code
def yX7_credentialsOf : MethodName := ⟨RX7, "credentialsOf", "(I)I"⟩
abbrev cX7_pass : ByteArray := prog_1_method_25_code
def yX7_pass : MethodName := ⟨RX7, "pass", "(I)I"⟩
abbrev cX7_time : ByteArray := prog_1_method_26_code
def yX7_time : MethodName := ⟨RX7, "time", "()I"⟩
abbrev cX7_nextEnd : ByteArray := prog_1_method_27_code
def yX7_nextEnd : MethodName := ⟨RX7, "nextEnd", "()I"⟩
abbrev cX7_entries : ByteArray := prog_1_method_28_code
def yX7_entries : MethodName := ⟨RX7, "entries", "()I"⟩
abbrev cX7_kindOf : ByteArray := prog_1_method_29_code
def yX7_kindOf : MethodName := ⟨RX7, "kindOf", "(I)I"⟩
abbrev cX7_subjectOf : ByteArray := prog_1_method_30_code
def yX7_subjectOf : MethodName := ⟨RX7, "subjectOf", "(I)I"⟩
abbrev cX7_detailOf : ByteArray := prog_1_method_31_code
def yX7_detailOf : MethodName := ⟨RX7, "detailOf", "(I)I"⟩
abbrev cX7_sumOf : ByteArray := prog_1_method_32_code
def yX7_sumOf : MethodName := ⟨RX7, "sumOf", "(I)J"⟩
abbrev cX7_checkPolicy : ByteArray := prog_1_method_33_code
def yX7_checkPolicy : MethodName := ⟨RX7, "checkPolicy", "(I)V"⟩
abbrev cX7_checkToken : ByteArray := prog_1_method_34_code
def yX7_checkToken : MethodName := ⟨RX7, "checkToken", "(I)V"⟩
abbrev cX7_checkCredential : ByteArray := prog_1_method_35_code
def yX7_checkCredential : MethodName := ⟨RX7, "checkCredential", "(I)V"⟩
abbrev cX7_checkEntry : ByteArray := prog_1_method_36_code
def yX7_checkEntry : MethodName := ⟨RX7, "checkEntry", "(I)V"⟩
abbrev cX7_checkAliveToken : ByteArray := prog_1_method_37_code
def yX7_checkAliveToken : MethodName := ⟨RX7, "checkAliveToken", "(I)V"⟩
abbrev cX7_checkEndingToken : ByteArray := prog_1_method_38_code
def yX7_checkEndingToken : MethodName := ⟨RX7, "checkEndingToken", "(I)V"⟩
abbrev cX7_checkPath : ByteArray := prog_1_method_39_code
def yX7_checkPath : MethodName := ⟨RX7, "checkPath", "(I)V"⟩
abbrev cX7_checkLease : ByteArray := prog_1_method_40_code
def yX7_checkLease : MethodName := ⟨RX7, "checkLease", "(II)V"⟩
abbrev cX7_checkRange : ByteArray := prog_1_method_41_code
def yX7_checkRange : MethodName := ⟨RX7, "checkRange", "(III)V"⟩
abbrev cX7_mayHand : ByteArray := prog_1_method_42_code
def yX7_mayHand : MethodName := ⟨RX7, "mayHand", "(II)Z"⟩
abbrev cX7_capabilitiesAt : ByteArray := prog_1_method_43_code
def yX7_capabilitiesAt : MethodName := ⟨RX7, "capabilitiesAt", "(II)I"⟩
abbrev cX7_reasonAgainst : ByteArray := prog_1_method_44_code
def yX7_reasonAgainst : MethodName := ⟨RX7, "reasonAgainst", "(II)I"⟩
abbrev cX7_give : ByteArray := prog_1_method_45_code
def yX7_give : MethodName := ⟨RX7, "give", "(II)I"⟩
abbrev cX7_endToken : ByteArray := prog_1_method_46_code
def yX7_endToken : MethodName := ⟨RX7, "endToken", "(I)I"⟩
abbrev cX7_endWhatHungOnTokens : ByteArray := prog_1_method_47_code
def yX7_endWhatHungOnTokens : MethodName := ⟨RX7, "endWhatHungOnTokens", "()I"⟩
def RX8 : String := "SecretBrokerModel"
def TX8 : u_T := fun k => match k with
  | _ => ("", "", "", false)
def tyX8 : Nat → FieldType := fun k => match k with
  | _ => .int
abbrev wsX80 : List Cond := u_ws RX8 TX8 0
theorem nmX8 : ∀ a, a < 0 → ∀ b, b < 0 → a ≠ b → (TX8 a).2.1 ≠ (TX8 b).2.1 := by decide +kernel
theorem tyX8_ok : ∀ k, k < 0 → parseFieldDescriptor (TX8 k).2.2.1 = some (tyX8 k) := by decide +kernel
def RJ9 : String := "java/lang/Math"
def TJ9 : u_T := fun k => match k with
  | _ => ("", "", "", false)
def tyJ9 : Nat → FieldType := fun k => match k with
  | _ => .int
abbrev wsJ90 : List Cond := u_ws RJ9 TJ9 0
theorem nmJ9 : ∀ a, a < 0 → ∀ b, b < 0 → a ≠ b → (TJ9 a).2.1 ≠ (TJ9 b).2.1 := by decide +kernel
theorem tyJ9_ok : ∀ k, k < 0 → parseFieldDescriptor (TJ9 k).2.2.1 = some (tyJ9 k) := by decide +kernel
abbrev cJ9_max_7cf53 : ByteArray := prog_15_method_65_code
def yJ9_max_7cf53 : MethodName := ⟨RJ9, "max", "(II)I"⟩
abbrev cJ9_min_7cf53 : ByteArray := prog_15_method_69_code
def yJ9_min_7cf53 : MethodName := ⟨RJ9, "min", "(II)I"⟩
def RJ0 : String := "java/lang/String"
def TJ0 : u_T := fun k => match k with
  | _ => ("", "", "", false)
def tyJ0 : Nat → FieldType := fun k => match k with
  | _ => .int
abbrev wsJ00 : List Cond := u_ws RJ0 TJ0 0
theorem nmJ0 : ∀ a, a < 0 → ∀ b, b < 0 → a ≠ b → (TJ0 a).2.1 ≠ (TJ0 b).2.1 := by decide +kernel
theorem tyJ0_ok : ∀ k, k < 0 → parseFieldDescriptor (TJ0 k).2.2.1 = some (tyJ0 k) := by decide +kernel
def RL : String := "SecretBrokerLaw"
abbrev cL_cell : ByteArray := method_2_code
def yL_cell : MethodName := ⟨RL, "cell", "([II)I"⟩
abbrev cL_low : ByteArray := method_3_code
def yL_low : MethodName := ⟨RL, "low", "(II)I"⟩
abbrev cL_ten : ByteArray := method_4_code
def yL_ten : MethodName := ⟨RL, "ten", "(I)I"⟩
abbrev cL_digits : ByteArray := method_5_code
def yL_digits : MethodName := ⟨RL, "digits", "(I)I"⟩
abbrev cL_isBelow : ByteArray := method_6_code
def yL_isBelow : MethodName := ⟨RL, "isBelow", "(II)Z"⟩
abbrev cL_fit : ByteArray := method_7_code
def yL_fit : MethodName := ⟨RL, "fit", "(III)I"⟩
abbrev cL_can : ByteArray := method_8_code
def yL_can : MethodName := ⟨RL, "can", "(II[I[I[I[I)I"⟩
abbrev cL_lives : ByteArray := method_9_code
def yL_lives : MethodName := ⟨RL, "lives", "(I[I[I)Z"⟩
abbrev cL_works : ByteArray := method_10_code
def yL_works : MethodName := ⟨RL, "works", "(I[I[I[I)Z"⟩
abbrev cL_living : ByteArray := method_11_code
def yL_living : MethodName := ⟨RL, "living", "([I[I)I"⟩
abbrev cL_working : ByteArray := method_12_code
def yL_working : MethodName := ⟨RL, "working", "([I[I[I)I"⟩
abbrev cL_mountFor : ByteArray := method_13_code
def yL_mountFor : MethodName := ⟨RL, "mountFor", "(I[I[I)I"⟩
abbrev cL_why : ByteArray := method_14_code
def yL_why : MethodName := ⟨RL, "why", "(II[I[I[I[I[I[I)I"⟩
abbrev cL_refused : ByteArray := method_15_code
def yL_refused : MethodName := ⟨RL, "refused", "(LSecretBroker;IIII)I"⟩
abbrev cL_writes : ByteArray := method_16_code
def yL_writes : MethodName := ⟨RL, "writes", "(LSecretBroker;III[I[J)Z"⟩
abbrev cL_same : ByteArray := method_17_code
def yL_same : MethodName := ⟨RL, "same", "(LSecretBroker;I[I[I[I)Z"⟩
abbrev cL_path : ByteArray := method_18_code
def yL_path : MethodName := ⟨RL, "path", "(II)I"⟩
abbrev cL_law : ByteArray := code
def yL_law : MethodName := ⟨RL, "law", "([I)Z"⟩
def wsX0_init : List Cond := .code yX0_init cX0_init 1 none :: ([.methodLink RX0 3 objectInit, .instanceMethod objectInit, .code objectInit ⟨#[0xb1]⟩ 1 none, .arrayClass .int, .fieldLink RX0 9 "SecretBroker$Audit" "kinds" "[I", .fieldLink RX0 15 "SecretBroker$Audit" "subjects" "[I", .fieldLink RX0 18 "SecretBroker$Audit" "details" "[I", .arrayClass .long, .fieldLink RX0 21 "SecretBroker$Audit" "sums" "[J", .fieldLink RX0 25 "SecretBroker$Audit" "count" "I"] ++ wsX00)
def wsX0_count : List Cond := .code yX0_count cX0_count 1 (some .int) :: ([.fieldLink RX0 25 "SecretBroker$Audit" "count" "I"] ++ wsX00)
def wsX0_has : List Cond := .code yX0_has cX0_has 2 (some .boolean) :: ([.fieldLink RX0 25 "SecretBroker$Audit" "count" "I"] ++ wsX00)
def wsX0_write : List Cond := .code yX0_write cX0_write 7 none :: ([.fieldLink RX0 25 "SecretBroker$Audit" "count" "I", .constantLong RX0 29 (17), .fieldLink RX0 21 "SecretBroker$Audit" "sums" "[J", .fieldLink RX0 9 "SecretBroker$Audit" "kinds" "[I", .fieldLink RX0 15 "SecretBroker$Audit" "subjects" "[I", .fieldLink RX0 18 "SecretBroker$Audit" "details" "[I", .constantLong RX0 31 (31), .constantLong RX0 33 (7), .constantLong RX0 35 (5), .constantLong RX0 37 (3), .constantLong RX0 39 (1000003)] ++ wsX00)
def wsX0_kindAt : List Cond := .code yX0_kindAt cX0_kindAt 2 (some .int) :: ([.fieldLink RX0 9 "SecretBroker$Audit" "kinds" "[I", .methodLink RX0 41 yX0_has, .instanceMethod yX0_has, .selects RX0 yX0_has yX0_has, .initialized RX0, .code yX0_has cX0_has 2 (some .boolean), .fieldLink RX0 25 "SecretBroker$Audit" "count" "I"] ++ wsX00)
def wsX0_subjectAt : List Cond := .code yX0_subjectAt cX0_subjectAt 2 (some .int) :: ([.fieldLink RX0 15 "SecretBroker$Audit" "subjects" "[I", .methodLink RX0 41 yX0_has, .instanceMethod yX0_has, .selects RX0 yX0_has yX0_has, .initialized RX0, .code yX0_has cX0_has 2 (some .boolean), .fieldLink RX0 25 "SecretBroker$Audit" "count" "I"] ++ wsX00)
def wsX0_detailAt : List Cond := .code yX0_detailAt cX0_detailAt 2 (some .int) :: ([.fieldLink RX0 18 "SecretBroker$Audit" "details" "[I", .methodLink RX0 41 yX0_has, .instanceMethod yX0_has, .selects RX0 yX0_has yX0_has, .initialized RX0, .code yX0_has cX0_has 2 (some .boolean), .fieldLink RX0 25 "SecretBroker$Audit" "count" "I"] ++ wsX00)
def wsX0_sumAt : List Cond := .code yX0_sumAt cX0_sumAt 2 (some .long) :: ([.fieldLink RX0 21 "SecretBroker$Audit" "sums" "[J", .methodLink RX0 41 yX0_has, .instanceMethod yX0_has, .selects RX0 yX0_has yX0_has, .initialized RX0, .code yX0_has cX0_has 2 (some .boolean), .fieldLink RX0 25 "SecretBroker$Audit" "count" "I"] ++ wsX00)
def wsX2_init : List Cond := .code yX2_init cX2_init 1 none :: ([.methodLink RX2 3 objectInit, .instanceMethod objectInit, .code objectInit ⟨#[0xb1]⟩ 1 none, .arrayClass .int, .fieldLink RX2 9 "SecretBroker$Leased" "beginnings" "[I", .fieldLink RX2 15 "SecretBroker$Leased" "ends" "[I", .fieldLink RX2 18 "SecretBroker$Leased" "bounds" "[I", .arrayClass .boolean, .fieldLink RX2 21 "SecretBroker$Leased" "on" "[Z", .fieldLink RX2 25 "SecretBroker$Leased" "made" "I", .fieldLink RX2 29 "SecretBroker$Leased" "living" "I"] ++ wsX10 ++ wsX60)
def wsX1_init : List Cond := .code yX1_init cX1_init 1 none :: ([.arrayClass .int, .fieldLink RX1 9 "SecretBroker$Credentials" "owners" "[I", .fieldLink RX1 15 "SecretBroker$Credentials" "paths" "[I", .instanceMethod yX2_init, .initialized RX2, .code yX2_init cX2_init 1 none, .methodLink RX2 3 objectInit, .instanceMethod objectInit, .code objectInit ⟨#[0xb1]⟩ 1 none, .fieldLink RX2 9 "SecretBroker$Leased" "beginnings" "[I", .fieldLink RX2 15 "SecretBroker$Leased" "ends" "[I", .fieldLink RX2 18 "SecretBroker$Leased" "bounds" "[I", .arrayClass .boolean, .fieldLink RX2 21 "SecretBroker$Leased" "on" "[Z", .fieldLink RX2 25 "SecretBroker$Leased" "made" "I", .fieldLink RX2 29 "SecretBroker$Leased" "living" "I"] ++ wsX10 ++ wsX60)
def wsX2_has : List Cond := .code yX2_has cX2_has 2 (some .boolean) :: ([.fieldLink RX2 25 "SecretBroker$Leased" "made" "I"] ++ wsX10 ++ wsX60)
def wsX1_describe : List Cond := .code yX1_describe cX1_describe 4 none :: ([.fieldLink RX1 9 "SecretBroker$Credentials" "owners" "[I", .fieldLink RX1 15 "SecretBroker$Credentials" "paths" "[I", .methodLink RX1 18 ⟨"SecretBroker$Credentials", "has", "(I)Z"⟩, .sameMethod "SecretBroker$Credentials" "SecretBroker$Leased" "has" "(I)Z", .selects RX1 ⟨"SecretBroker$Credentials", "has", "(I)Z"⟩ yX2_has, .instanceMethod yX2_has, .initialized RX2, .code yX2_has cX2_has 2 (some .boolean), .fieldLink RX2 25 "SecretBroker$Leased" "made" "I"] ++ wsX10 ++ wsX60)
def wsX1_ownerAt : List Cond := .code yX1_ownerAt cX1_ownerAt 2 (some .int) :: ([.fieldLink RX1 9 "SecretBroker$Credentials" "owners" "[I", .methodLink RX1 18 ⟨"SecretBroker$Credentials", "has", "(I)Z"⟩, .sameMethod "SecretBroker$Credentials" "SecretBroker$Leased" "has" "(I)Z", .selects RX1 ⟨"SecretBroker$Credentials", "has", "(I)Z"⟩ yX2_has, .instanceMethod yX2_has, .initialized RX2, .code yX2_has cX2_has 2 (some .boolean), .fieldLink RX2 25 "SecretBroker$Leased" "made" "I"] ++ wsX10 ++ wsX60)
def wsX2_made : List Cond := .code yX2_made cX2_made 1 (some .int) :: ([.fieldLink RX2 25 "SecretBroker$Leased" "made" "I"] ++ wsX10 ++ wsX60)
def wsX2_isOn : List Cond := .code yX2_isOn cX2_isOn 2 (some .boolean) :: ([.fieldLink RX2 21 "SecretBroker$Leased" "on" "[Z", .methodLink RX2 32 ⟨"SecretBroker$Leased", "has", "(I)Z"⟩, .sameMethod "SecretBroker$Leased" "SecretBroker$Leased" "has" "(I)Z", .selects RX1 ⟨"SecretBroker$Leased", "has", "(I)Z"⟩ yX2_has, .instanceMethod yX2_has, .initialized RX2, .code yX2_has cX2_has 2 (some .boolean), .fieldLink RX2 25 "SecretBroker$Leased" "made" "I", .selects RX6 ⟨"SecretBroker$Leased", "has", "(I)Z"⟩ yX2_has] ++ wsX10 ++ wsX60)
def wsX1_livingOf : List Cond := .code yX1_livingOf cX1_livingOf 4 (some .int) :: ([.fieldLink RX1 9 "SecretBroker$Credentials" "owners" "[I", .methodLink RX1 22 ⟨"SecretBroker$Credentials", "made", "()I"⟩, .sameMethod "SecretBroker$Credentials" "SecretBroker$Leased" "made" "()I", .selects RX1 ⟨"SecretBroker$Credentials", "made", "()I"⟩ yX2_made, .instanceMethod yX2_made, .initialized RX2, .code yX2_made cX2_made 1 (some .int), .fieldLink RX2 25 "SecretBroker$Leased" "made" "I", .methodLink RX1 26 ⟨"SecretBroker$Credentials", "isOn", "(I)Z"⟩, .sameMethod "SecretBroker$Credentials" "SecretBroker$Leased" "isOn" "(I)Z", .selects RX1 ⟨"SecretBroker$Credentials", "isOn", "(I)Z"⟩ yX2_isOn, .instanceMethod yX2_isOn, .code yX2_isOn cX2_isOn 2 (some .boolean), .fieldLink RX2 21 "SecretBroker$Leased" "on" "[Z", .methodLink RX2 32 ⟨"SecretBroker$Leased", "has", "(I)Z"⟩, .sameMethod "SecretBroker$Leased" "SecretBroker$Leased" "has" "(I)Z", .selects RX1 ⟨"SecretBroker$Leased", "has", "(I)Z"⟩ yX2_has, .instanceMethod yX2_has, .code yX2_has cX2_has 2 (some .boolean), .selects RX6 ⟨"SecretBroker$Leased", "has", "(I)Z"⟩ yX2_has] ++ wsX10 ++ wsX60)
def wsX4_length : List Cond := .code yX4_length cX4_length 4 (some .int) :: ([])
def wsX4_withoutLast : List Cond := .code yX4_withoutLast cX4_withoutLast 4 (some .int) :: ([])
def wsX4_isBelow : List Cond := .code yX4_isBelow cX4_isBelow 3 (some .boolean) :: ([.methodLink RX4 16 yX4_length, .static yX4_length, .initialized RX4, .code yX4_length cX4_length 4 (some .int), .methodLink RX4 20 yX4_withoutLast, .static yX4_withoutLast, .code yX4_withoutLast cX4_withoutLast 4 (some .int)])
def wsX2_end : List Cond := .code yX2_end cX2_end 2 (some .int) :: ([.fieldLink RX2 21 "SecretBroker$Leased" "on" "[Z", .fieldLink RX2 29 "SecretBroker$Leased" "living" "I", .methodLink RX2 45 ⟨"SecretBroker$Leased", "isOn", "(I)Z"⟩, .sameMethod "SecretBroker$Leased" "SecretBroker$Leased" "isOn" "(I)Z", .selects RX1 ⟨"SecretBroker$Leased", "isOn", "(I)Z"⟩ yX2_isOn, .instanceMethod yX2_isOn, .initialized RX2, .code yX2_isOn cX2_isOn 2 (some .boolean), .methodLink RX2 32 ⟨"SecretBroker$Leased", "has", "(I)Z"⟩, .sameMethod "SecretBroker$Leased" "SecretBroker$Leased" "has" "(I)Z", .selects RX1 ⟨"SecretBroker$Leased", "has", "(I)Z"⟩ yX2_has, .instanceMethod yX2_has, .code yX2_has cX2_has 2 (some .boolean), .fieldLink RX2 25 "SecretBroker$Leased" "made" "I", .selects RX6 ⟨"SecretBroker$Leased", "has", "(I)Z"⟩ yX2_has, .selects RX6 ⟨"SecretBroker$Leased", "isOn", "(I)Z"⟩ yX2_isOn] ++ wsX10 ++ wsX60)
def wsX1_endBelow_r1 : List Cond := [Cond.fieldLink RX1 15 "SecretBroker$Credentials" "paths" "[I", Cond.methodLink RX1 22 ⟨"SecretBroker$Credentials", "made", "()I"⟩, Cond.sameMethod "SecretBroker$Credentials" "SecretBroker$Leased" "made" "()I", Cond.selects RX1 ⟨"SecretBroker$Credentials", "made", "()I"⟩ yX2_made, Cond.instanceMethod yX2_made, Cond.initialized RX2, Cond.code yX2_made cX2_made 1 (some .int), Cond.fieldLink RX2 25 "SecretBroker$Leased" "made" "I", Cond.methodLink RX1 29 yX4_isBelow, Cond.static yX4_isBelow, Cond.initialized RX4, Cond.code yX4_isBelow cX4_isBelow 3 (some .boolean), Cond.methodLink RX4 16 yX4_length, Cond.static yX4_length, Cond.code yX4_length cX4_length 4 (some .int), Cond.methodLink RX4 20 yX4_withoutLast, Cond.static yX4_withoutLast, Cond.code yX4_withoutLast cX4_withoutLast 4 (some .int), Cond.methodLink RX1 35 ⟨"SecretBroker$Credentials", "end", "(I)I"⟩, Cond.sameMethod "SecretBroker$Credentials" "SecretBroker$Leased" "end" "(I)I", Cond.selects RX1 ⟨"SecretBroker$Credentials", "end", "(I)I"⟩ yX2_end, Cond.instanceMethod yX2_end, Cond.code yX2_end cX2_end 2 (some .int), Cond.fieldLink RX2 21 "SecretBroker$Leased" "on" "[Z"]
def wsX1_endBelow_r2 : List Cond := [Cond.fieldLink RX2 29 "SecretBroker$Leased" "living" "I", Cond.methodLink RX2 45 ⟨"SecretBroker$Leased", "isOn", "(I)Z"⟩, Cond.sameMethod "SecretBroker$Leased" "SecretBroker$Leased" "isOn" "(I)Z", Cond.selects RX1 ⟨"SecretBroker$Leased", "isOn", "(I)Z"⟩ yX2_isOn, Cond.instanceMethod yX2_isOn, Cond.code yX2_isOn cX2_isOn 2 (some .boolean), Cond.methodLink RX2 32 ⟨"SecretBroker$Leased", "has", "(I)Z"⟩, Cond.sameMethod "SecretBroker$Leased" "SecretBroker$Leased" "has" "(I)Z", Cond.selects RX1 ⟨"SecretBroker$Leased", "has", "(I)Z"⟩ yX2_has, Cond.instanceMethod yX2_has, Cond.code yX2_has cX2_has 2 (some .boolean), Cond.selects RX6 ⟨"SecretBroker$Leased", "has", "(I)Z"⟩ yX2_has, Cond.selects RX6 ⟨"SecretBroker$Leased", "isOn", "(I)Z"⟩ yX2_isOn]
def wsX1_endBelow : List Cond := .code yX1_endBelow cX1_endBelow 4 (some .int) :: ((wsX1_endBelow_r1 ++ wsX1_endBelow_r2) ++ wsX10 ++ wsX60)
def wsX1_endOfEnded_r1 : List Cond := [Cond.fieldLink RX1 9 "SecretBroker$Credentials" "owners" "[I", Cond.methodLink RX1 22 ⟨"SecretBroker$Credentials", "made", "()I"⟩, Cond.sameMethod "SecretBroker$Credentials" "SecretBroker$Leased" "made" "()I", Cond.selects RX1 ⟨"SecretBroker$Credentials", "made", "()I"⟩ yX2_made, Cond.instanceMethod yX2_made, Cond.initialized RX2, Cond.code yX2_made cX2_made 1 (some .int), Cond.fieldLink RX2 25 "SecretBroker$Leased" "made" "I", Cond.methodLink RX1 39 ⟨"SecretBroker$Tokens", "isOn", "(I)Z"⟩, Cond.sameMethod "SecretBroker$Tokens" "SecretBroker$Leased" "isOn" "(I)Z", Cond.selects RX6 ⟨"SecretBroker$Tokens", "isOn", "(I)Z"⟩ yX2_isOn, Cond.instanceMethod yX2_isOn, Cond.code yX2_isOn cX2_isOn 2 (some .boolean), Cond.fieldLink RX2 21 "SecretBroker$Leased" "on" "[Z", Cond.methodLink RX2 32 ⟨"SecretBroker$Leased", "has", "(I)Z"⟩, Cond.sameMethod "SecretBroker$Leased" "SecretBroker$Leased" "has" "(I)Z", Cond.selects RX1 ⟨"SecretBroker$Leased", "has", "(I)Z"⟩ yX2_has, Cond.instanceMethod yX2_has, Cond.code yX2_has cX2_has 2 (some .boolean), Cond.selects RX6 ⟨"SecretBroker$Leased", "has", "(I)Z"⟩ yX2_has, Cond.methodLink RX1 35 ⟨"SecretBroker$Credentials", "end", "(I)I"⟩, Cond.sameMethod "SecretBroker$Credentials" "SecretBroker$Leased" "end" "(I)I", Cond.selects RX1 ⟨"SecretBroker$Credentials", "end", "(I)I"⟩ yX2_end, Cond.instanceMethod yX2_end]
def wsX1_endOfEnded_r2 : List Cond := [Cond.code yX2_end cX2_end 2 (some .int), Cond.fieldLink RX2 29 "SecretBroker$Leased" "living" "I", Cond.methodLink RX2 45 ⟨"SecretBroker$Leased", "isOn", "(I)Z"⟩, Cond.sameMethod "SecretBroker$Leased" "SecretBroker$Leased" "isOn" "(I)Z", Cond.selects RX1 ⟨"SecretBroker$Leased", "isOn", "(I)Z"⟩ yX2_isOn, Cond.selects RX6 ⟨"SecretBroker$Leased", "isOn", "(I)Z"⟩ yX2_isOn]
def wsX1_endOfEnded : List Cond := .code yX1_endOfEnded cX1_endOfEnded 4 (some .int) :: ((wsX1_endOfEnded_r1 ++ wsX1_endOfEnded_r2) ++ wsX10 ++ wsX60)
def wsX2_living : List Cond := .code yX2_living cX2_living 1 (some .int) :: ([.fieldLink RX2 29 "SecretBroker$Leased" "living" "I"] ++ wsX10 ++ wsX60)
def wsX2_isFull : List Cond := .code yX2_isFull cX2_isFull 1 (some .boolean) :: ([.fieldLink RX2 25 "SecretBroker$Leased" "made" "I"] ++ wsX10 ++ wsX60)
def wsX2_endAt : List Cond := .code yX2_endAt cX2_endAt 2 (some .int) :: ([.fieldLink RX2 15 "SecretBroker$Leased" "ends" "[I", .methodLink RX2 32 ⟨"SecretBroker$Leased", "has", "(I)Z"⟩, .sameMethod "SecretBroker$Leased" "SecretBroker$Leased" "has" "(I)Z", .selects RX1 ⟨"SecretBroker$Leased", "has", "(I)Z"⟩ yX2_has, .instanceMethod yX2_has, .initialized RX2, .code yX2_has cX2_has 2 (some .boolean), .fieldLink RX2 25 "SecretBroker$Leased" "made" "I", .selects RX6 ⟨"SecretBroker$Leased", "has", "(I)Z"⟩ yX2_has] ++ wsX10 ++ wsX60)
def wsX2_add : List Cond := .code yX2_add cX2_add 4 (some .int) :: ([.fieldLink RX2 25 "SecretBroker$Leased" "made" "I", .fieldLink RX2 9 "SecretBroker$Leased" "beginnings" "[I", .fieldLink RX2 15 "SecretBroker$Leased" "ends" "[I", .fieldLink RX2 18 "SecretBroker$Leased" "bounds" "[I", .fieldLink RX2 21 "SecretBroker$Leased" "on" "[Z", .fieldLink RX2 29 "SecretBroker$Leased" "living" "I"] ++ wsX10 ++ wsX60)
def wsX2_prolong : List Cond := .code yX2_prolong cX2_prolong 5 none :: ([.fieldLink RX2 9 "SecretBroker$Leased" "beginnings" "[I", .fieldLink RX2 18 "SecretBroker$Leased" "bounds" "[I", .fieldLink RX2 15 "SecretBroker$Leased" "ends" "[I", .methodLink RX2 36 Lib.Math.min.name, .static Lib.Math.min.name, .initialized "java/lang/Math", .code Lib.Math.min.name Lib.Math.min.code 2 (some .int), .methodLink RX2 42 Lib.Math.max.name, .static Lib.Math.max.name, .code Lib.Math.max.name Lib.Math.max.code 2 (some .int), .methodLink RX2 32 ⟨"SecretBroker$Leased", "has", "(I)Z"⟩, .sameMethod "SecretBroker$Leased" "SecretBroker$Leased" "has" "(I)Z", .selects RX1 ⟨"SecretBroker$Leased", "has", "(I)Z"⟩ yX2_has, .instanceMethod yX2_has, .initialized RX2, .code yX2_has cX2_has 2 (some .boolean), .fieldLink RX2 25 "SecretBroker$Leased" "made" "I", .selects RX6 ⟨"SecretBroker$Leased", "has", "(I)Z"⟩ yX2_has] ++ wsX10 ++ wsX60)
def wsX2_endByTime : List Cond := .code yX2_endByTime cX2_endByTime 4 (some .int) :: ([.fieldLink RX2 25 "SecretBroker$Leased" "made" "I", .fieldLink RX2 15 "SecretBroker$Leased" "ends" "[I", .methodLink RX2 48 ⟨"SecretBroker$Leased", "end", "(I)I"⟩, .sameMethod "SecretBroker$Leased" "SecretBroker$Leased" "end" "(I)I", .selects RX1 ⟨"SecretBroker$Leased", "end", "(I)I"⟩ yX2_end, .instanceMethod yX2_end, .initialized RX2, .code yX2_end cX2_end 2 (some .int), .fieldLink RX2 21 "SecretBroker$Leased" "on" "[Z", .fieldLink RX2 29 "SecretBroker$Leased" "living" "I", .methodLink RX2 45 ⟨"SecretBroker$Leased", "isOn", "(I)Z"⟩, .sameMethod "SecretBroker$Leased" "SecretBroker$Leased" "isOn" "(I)Z", .selects RX1 ⟨"SecretBroker$Leased", "isOn", "(I)Z"⟩ yX2_isOn, .instanceMethod yX2_isOn, .code yX2_isOn cX2_isOn 2 (some .boolean), .methodLink RX2 32 ⟨"SecretBroker$Leased", "has", "(I)Z"⟩, .sameMethod "SecretBroker$Leased" "SecretBroker$Leased" "has" "(I)Z", .selects RX1 ⟨"SecretBroker$Leased", "has", "(I)Z"⟩ yX2_has, .instanceMethod yX2_has, .code yX2_has cX2_has 2 (some .boolean), .selects RX6 ⟨"SecretBroker$Leased", "has", "(I)Z"⟩ yX2_has, .selects RX6 ⟨"SecretBroker$Leased", "isOn", "(I)Z"⟩ yX2_isOn, .selects RX6 ⟨"SecretBroker$Leased", "end", "(I)I"⟩ yX2_end] ++ wsX10 ++ wsX60)
def wsX2_firstEnd : List Cond := .code yX2_firstEnd cX2_firstEnd 3 (some .int) :: ([.fieldLink RX2 25 "SecretBroker$Leased" "made" "I", .fieldLink RX2 21 "SecretBroker$Leased" "on" "[Z", .fieldLink RX2 15 "SecretBroker$Leased" "ends" "[I"] ++ wsX10 ++ wsX60)
def wsX3_init : List Cond := .code yX3_init cX3_init 1 none :: ([.methodLink RX3 3 objectInit, .instanceMethod objectInit, .code objectInit ⟨#[0xb1]⟩ 1 none, .arrayClass .int, .fieldLink RX3 9 "SecretBroker$Mounts" "paths" "[I", .fieldLink RX3 15 "SecretBroker$Mounts" "minutes" "[I", .fieldLink RX3 18 "SecretBroker$Mounts" "bounds" "[I", .fieldLink RX3 21 "SecretBroker$Mounts" "count" "I"] ++ wsX30)
def wsX3_count : List Cond := .code yX3_count cX3_count 1 (some .int) :: ([.fieldLink RX3 21 "SecretBroker$Mounts" "count" "I"] ++ wsX30)
def wsX3_has : List Cond := .code yX3_has cX3_has 2 (some .boolean) :: ([.fieldLink RX3 21 "SecretBroker$Mounts" "count" "I"] ++ wsX30)
def wsX3_find : List Cond := .code yX3_find cX3_find 3 (some .int) :: ([.fieldLink RX3 21 "SecretBroker$Mounts" "count" "I", .fieldLink RX3 9 "SecretBroker$Mounts" "paths" "[I"] ++ wsX30)
def wsX3_put : List Cond := .code yX3_put cX3_put 5 none :: ([.fieldLink RX3 21 "SecretBroker$Mounts" "count" "I", .fieldLink RX3 9 "SecretBroker$Mounts" "paths" "[I", .fieldLink RX3 15 "SecretBroker$Mounts" "minutes" "[I", .fieldLink RX3 18 "SecretBroker$Mounts" "bounds" "[I", .methodLink RX3 25 yX3_find, .instanceMethod yX3_find, .selects RX3 yX3_find yX3_find, .initialized RX3, .code yX3_find cX3_find 3 (some .int)] ++ wsX30)
def wsX3_nearest : List Cond := .code yX3_nearest cX3_nearest 4 (some .int) :: ([.fieldLink RX3 21 "SecretBroker$Mounts" "count" "I", .fieldLink RX3 9 "SecretBroker$Mounts" "paths" "[I", .methodLink RX3 29 yX4_isBelow, .static yX4_isBelow, .initialized RX4, .code yX4_isBelow cX4_isBelow 3 (some .boolean), .methodLink RX4 16 yX4_length, .static yX4_length, .code yX4_length cX4_length 4 (some .int), .methodLink RX4 20 yX4_withoutLast, .static yX4_withoutLast, .code yX4_withoutLast cX4_withoutLast 4 (some .int)] ++ wsX30)
def wsX3_minutesAt : List Cond := .code yX3_minutesAt cX3_minutesAt 2 (some .int) :: ([.fieldLink RX3 15 "SecretBroker$Mounts" "minutes" "[I", .methodLink RX3 35 yX3_has, .instanceMethod yX3_has, .selects RX3 yX3_has yX3_has, .initialized RX3, .code yX3_has cX3_has 2 (some .boolean), .fieldLink RX3 21 "SecretBroker$Mounts" "count" "I"] ++ wsX30)
def wsX3_boundAt : List Cond := .code yX3_boundAt cX3_boundAt 2 (some .int) :: ([.fieldLink RX3 18 "SecretBroker$Mounts" "bounds" "[I", .methodLink RX3 35 yX3_has, .instanceMethod yX3_has, .selects RX3 yX3_has yX3_has, .initialized RX3, .code yX3_has cX3_has 2 (some .boolean), .fieldLink RX3 21 "SecretBroker$Mounts" "count" "I"] ++ wsX30)
def wsX4_hasDigits : List Cond := .code yX4_hasDigits cX4_hasDigits 5 (some .boolean) :: ([.constant RX4 15 (999999)])
def wsX4_isPath : List Cond := .code yX4_isPath cX4_isPath 1 (some .boolean) :: ([.methodLink RX4 9 yX4_hasDigits, .static yX4_hasDigits, .initialized RX4, .code yX4_hasDigits cX4_hasDigits 5 (some .boolean), .constant RX4 15 (999999)])
def wsX4_isPattern : List Cond := .code yX4_isPattern cX4_isPattern 1 (some .boolean) :: ([.methodLink RX4 9 yX4_hasDigits, .static yX4_hasDigits, .initialized RX4, .code yX4_hasDigits cX4_hasDigits 5 (some .boolean), .constant RX4 15 (999999)])
def wsX4_fits : List Cond := .code yX4_fits cX4_fits 8 (some .boolean) :: ([.methodLink RX4 16 yX4_length, .static yX4_length, .initialized RX4, .code yX4_length cX4_length 4 (some .int), .methodLink RX4 20 yX4_withoutLast, .static yX4_withoutLast, .code yX4_withoutLast cX4_withoutLast 4 (some .int)])
def wsX5_init : List Cond := .code yX5_init cX5_init 1 none :: ([.methodLink RX5 3 objectInit, .instanceMethod objectInit, .code objectInit ⟨#[0xb1]⟩ 1 none, .arrayClass .int, .fieldLink RX5 9 "SecretBroker$Policies" "ruleCounts" "[I", .fieldLink RX5 15 "SecretBroker$Policies" "patterns" "[I", .arrayClass .boolean, .fieldLink RX5 18 "SecretBroker$Policies" "opens" "[Z", .fieldLink RX5 22 "SecretBroker$Policies" "sets" "[I", .fieldLink RX5 25 "SecretBroker$Policies" "count" "I"] ++ wsX50)
def wsX5_count : List Cond := .code yX5_count cX5_count 1 (some .int) :: ([.fieldLink RX5 25 "SecretBroker$Policies" "count" "I"] ++ wsX50)
def wsX5_has : List Cond := .code yX5_has cX5_has 2 (some .boolean) :: ([.fieldLink RX5 25 "SecretBroker$Policies" "count" "I"] ++ wsX50)
def wsX5_hasAll : List Cond := .code yX5_hasAll cX5_hasAll 2 (some .boolean) :: ([.fieldLink RX5 25 "SecretBroker$Policies" "count" "I"] ++ wsX50)
def wsX5_add : List Cond := .code yX5_add cX5_add 1 (some .int) :: ([.fieldLink RX5 25 "SecretBroker$Policies" "count" "I"] ++ wsX50)
def wsX5_rulesOf : List Cond := .code yX5_rulesOf cX5_rulesOf 2 (some .int) :: ([.fieldLink RX5 9 "SecretBroker$Policies" "ruleCounts" "[I", .methodLink RX5 29 yX5_has, .instanceMethod yX5_has, .selects RX5 yX5_has yX5_has, .initialized RX5, .code yX5_has cX5_has 2 (some .boolean), .fieldLink RX5 25 "SecretBroker$Policies" "count" "I"] ++ wsX50)
def wsX5_find : List Cond := .code yX5_find cX5_find 7 (some .int) :: ([.fieldLink RX5 15 "SecretBroker$Policies" "patterns" "[I", .fieldLink RX5 18 "SecretBroker$Policies" "opens" "[Z", .methodLink RX5 33 yX5_rulesOf, .instanceMethod yX5_rulesOf, .selects RX5 yX5_rulesOf yX5_rulesOf, .initialized RX5, .code yX5_rulesOf cX5_rulesOf 2 (some .int), .fieldLink RX5 9 "SecretBroker$Policies" "ruleCounts" "[I", .methodLink RX5 29 yX5_has, .instanceMethod yX5_has, .selects RX5 yX5_has yX5_has, .code yX5_has cX5_has 2 (some .boolean), .fieldLink RX5 25 "SecretBroker$Policies" "count" "I"] ++ wsX50)
def wsX5_addRule : List Cond := .code yX5_addRule cX5_addRule 2 (some .int) :: ([.fieldLink RX5 9 "SecretBroker$Policies" "ruleCounts" "[I", .methodLink RX5 29 yX5_has, .instanceMethod yX5_has, .selects RX5 yX5_has yX5_has, .initialized RX5, .code yX5_has cX5_has 2 (some .boolean), .fieldLink RX5 25 "SecretBroker$Policies" "count" "I"] ++ wsX50)
def wsX5_put : List Cond := .code yX5_put cX5_put 6 none :: ([.fieldLink RX5 15 "SecretBroker$Policies" "patterns" "[I", .fieldLink RX5 18 "SecretBroker$Policies" "opens" "[Z", .fieldLink RX5 22 "SecretBroker$Policies" "sets" "[I", .methodLink RX5 37 yX5_find, .instanceMethod yX5_find, .selects RX5 yX5_find yX5_find, .initialized RX5, .code yX5_find cX5_find 7 (some .int), .methodLink RX5 33 yX5_rulesOf, .instanceMethod yX5_rulesOf, .selects RX5 yX5_rulesOf yX5_rulesOf, .code yX5_rulesOf cX5_rulesOf 2 (some .int), .fieldLink RX5 9 "SecretBroker$Policies" "ruleCounts" "[I", .methodLink RX5 29 yX5_has, .instanceMethod yX5_has, .selects RX5 yX5_has yX5_has, .code yX5_has cX5_has 2 (some .boolean), .fieldLink RX5 25 "SecretBroker$Policies" "count" "I", .methodLink RX5 41 yX5_addRule, .instanceMethod yX5_addRule, .selects RX5 yX5_addRule yX5_addRule, .code yX5_addRule cX5_addRule 2 (some .int)] ++ wsX50)
def wsX5_goesAhead : List Cond := .code yX5_goesAhead cX5_goesAhead 4 (some .boolean) :: ([.fieldLink RX5 15 "SecretBroker$Policies" "patterns" "[I", .fieldLink RX5 18 "SecretBroker$Policies" "opens" "[Z", .methodLink RX5 58 yX4_length, .static yX4_length, .initialized RX4, .code yX4_length cX4_length 4 (some .int)] ++ wsX50)
def wsX5_decided_r1 : List Cond := [Cond.fieldLink RX5 15 "SecretBroker$Policies" "patterns" "[I", Cond.fieldLink RX5 18 "SecretBroker$Policies" "opens" "[Z", Cond.fieldLink RX5 22 "SecretBroker$Policies" "sets" "[I", Cond.methodLink RX5 33 yX5_rulesOf, Cond.instanceMethod yX5_rulesOf, Cond.selects RX5 yX5_rulesOf yX5_rulesOf, Cond.initialized RX5, Cond.code yX5_rulesOf cX5_rulesOf 2 (some .int), Cond.fieldLink RX5 9 "SecretBroker$Policies" "ruleCounts" "[I", Cond.methodLink RX5 29 yX5_has, Cond.instanceMethod yX5_has, Cond.selects RX5 yX5_has yX5_has, Cond.code yX5_has cX5_has 2 (some .boolean), Cond.fieldLink RX5 25 "SecretBroker$Policies" "count" "I", Cond.methodLink RX5 48 yX4_fits, Cond.static yX4_fits, Cond.initialized RX4, Cond.code yX4_fits cX4_fits 8 (some .boolean), Cond.methodLink RX4 16 yX4_length, Cond.static yX4_length, Cond.code yX4_length cX4_length 4 (some .int), Cond.methodLink RX4 20 yX4_withoutLast, Cond.static yX4_withoutLast, Cond.code yX4_withoutLast cX4_withoutLast 4 (some .int)]
def wsX5_decided_r2 : List Cond := [Cond.methodLink RX5 54 yX5_goesAhead, Cond.instanceMethod yX5_goesAhead, Cond.selects RX5 yX5_goesAhead yX5_goesAhead, Cond.code yX5_goesAhead cX5_goesAhead 4 (some .boolean), Cond.methodLink RX5 58 yX4_length]
def wsX5_decided : List Cond := .code yX5_decided cX5_decided 7 (some .int) :: ((wsX5_decided_r1 ++ wsX5_decided_r2) ++ wsX50)
def wsX5_together_r1 : List Cond := [Cond.fieldLink RX5 25 "SecretBroker$Policies" "count" "I", Cond.methodLink RX5 44 yX5_decided, Cond.instanceMethod yX5_decided, Cond.selects RX5 yX5_decided yX5_decided, Cond.initialized RX5, Cond.code yX5_decided cX5_decided 7 (some .int), Cond.fieldLink RX5 15 "SecretBroker$Policies" "patterns" "[I", Cond.fieldLink RX5 18 "SecretBroker$Policies" "opens" "[Z", Cond.fieldLink RX5 22 "SecretBroker$Policies" "sets" "[I", Cond.methodLink RX5 33 yX5_rulesOf, Cond.instanceMethod yX5_rulesOf, Cond.selects RX5 yX5_rulesOf yX5_rulesOf, Cond.code yX5_rulesOf cX5_rulesOf 2 (some .int), Cond.fieldLink RX5 9 "SecretBroker$Policies" "ruleCounts" "[I", Cond.methodLink RX5 29 yX5_has, Cond.instanceMethod yX5_has, Cond.selects RX5 yX5_has yX5_has, Cond.code yX5_has cX5_has 2 (some .boolean), Cond.methodLink RX5 48 yX4_fits, Cond.static yX4_fits, Cond.initialized RX4, Cond.code yX4_fits cX4_fits 8 (some .boolean), Cond.methodLink RX4 16 yX4_length, Cond.static yX4_length]
def wsX5_together_r2 : List Cond := [Cond.code yX4_length cX4_length 4 (some .int), Cond.methodLink RX4 20 yX4_withoutLast, Cond.static yX4_withoutLast, Cond.code yX4_withoutLast cX4_withoutLast 4 (some .int), Cond.methodLink RX5 54 yX5_goesAhead, Cond.instanceMethod yX5_goesAhead, Cond.selects RX5 yX5_goesAhead yX5_goesAhead, Cond.code yX5_goesAhead cX5_goesAhead 4 (some .boolean), Cond.methodLink RX5 58 yX4_length]
def wsX5_together : List Cond := .code yX5_together cX5_together 5 (some .int) :: ((wsX5_together_r1 ++ wsX5_together_r2) ++ wsX50)
def wsX6_describe : List Cond := .code yX6_describe cX6_describe 5 none :: ([.fieldLink RX6 9 "SecretBroker$Tokens" "parents" "[I", .fieldLink RX6 15 "SecretBroker$Tokens" "policySets" "[I", .fieldLink RX6 18 "SecretBroker$Tokens" "uses" "[I", .methodLink RX6 29 ⟨"SecretBroker$Tokens", "has", "(I)Z"⟩, .sameMethod "SecretBroker$Tokens" "SecretBroker$Leased" "has" "(I)Z", .selects RX6 ⟨"SecretBroker$Tokens", "has", "(I)Z"⟩ yX2_has, .instanceMethod yX2_has, .initialized RX2, .code yX2_has cX2_has 2 (some .boolean), .fieldLink RX2 25 "SecretBroker$Leased" "made" "I"] ++ wsX60 ++ wsX10)
def wsX6_init_r1 : List Cond := [Cond.arrayClass .int, Cond.fieldLink RX6 9 "SecretBroker$Tokens" "parents" "[I", Cond.fieldLink RX6 15 "SecretBroker$Tokens" "policySets" "[I", Cond.fieldLink RX6 18 "SecretBroker$Tokens" "uses" "[I", Cond.instanceMethod yX2_init, Cond.initialized RX2, Cond.code yX2_init cX2_init 1 none, Cond.methodLink RX2 3 objectInit, Cond.instanceMethod objectInit, Cond.code objectInit ⟨#[0xb1]⟩ 1 none, Cond.fieldLink RX2 9 "SecretBroker$Leased" "beginnings" "[I", Cond.fieldLink RX2 15 "SecretBroker$Leased" "ends" "[I", Cond.fieldLink RX2 18 "SecretBroker$Leased" "bounds" "[I", Cond.arrayClass .boolean, Cond.fieldLink RX2 21 "SecretBroker$Leased" "on" "[Z", Cond.fieldLink RX2 25 "SecretBroker$Leased" "made" "I", Cond.fieldLink RX2 29 "SecretBroker$Leased" "living" "I", Cond.methodLink RX6 21 ⟨"SecretBroker$Tokens", "add", "(III)I"⟩, Cond.sameMethod "SecretBroker$Tokens" "SecretBroker$Leased" "add" "(III)I", Cond.selects RX6 ⟨"SecretBroker$Tokens", "add", "(III)I"⟩ yX2_add, Cond.instanceMethod yX2_add, Cond.code yX2_add cX2_add 4 (some .int), Cond.methodLink RX6 25 yX6_describe, Cond.instanceMethod yX6_describe]
def wsX6_init_r2 : List Cond := [Cond.selects RX6 yX6_describe yX6_describe, Cond.initialized RX6, Cond.code yX6_describe cX6_describe 5 none, Cond.methodLink RX6 29 ⟨"SecretBroker$Tokens", "has", "(I)Z"⟩, Cond.sameMethod "SecretBroker$Tokens" "SecretBroker$Leased" "has" "(I)Z", Cond.selects RX6 ⟨"SecretBroker$Tokens", "has", "(I)Z"⟩ yX2_has, Cond.instanceMethod yX2_has, Cond.code yX2_has cX2_has 2 (some .boolean)]
def wsX6_init : List Cond := .code yX6_init cX6_init 1 none :: ((wsX6_init_r1 ++ wsX6_init_r2) ++ wsX60 ++ wsX10)
def wsX6_parentAt : List Cond := .code yX6_parentAt cX6_parentAt 2 (some .int) :: ([.fieldLink RX6 9 "SecretBroker$Tokens" "parents" "[I", .methodLink RX6 29 ⟨"SecretBroker$Tokens", "has", "(I)Z"⟩, .sameMethod "SecretBroker$Tokens" "SecretBroker$Leased" "has" "(I)Z", .selects RX6 ⟨"SecretBroker$Tokens", "has", "(I)Z"⟩ yX2_has, .instanceMethod yX2_has, .initialized RX2, .code yX2_has cX2_has 2 (some .boolean), .fieldLink RX2 25 "SecretBroker$Leased" "made" "I"] ++ wsX60 ++ wsX10)
def wsX6_policiesAt : List Cond := .code yX6_policiesAt cX6_policiesAt 2 (some .int) :: ([.fieldLink RX6 15 "SecretBroker$Tokens" "policySets" "[I", .methodLink RX6 29 ⟨"SecretBroker$Tokens", "has", "(I)Z"⟩, .sameMethod "SecretBroker$Tokens" "SecretBroker$Leased" "has" "(I)Z", .selects RX6 ⟨"SecretBroker$Tokens", "has", "(I)Z"⟩ yX2_has, .instanceMethod yX2_has, .initialized RX2, .code yX2_has cX2_has 2 (some .boolean), .fieldLink RX2 25 "SecretBroker$Leased" "made" "I"] ++ wsX60 ++ wsX10)
def wsX6_usesAt : List Cond := .code yX6_usesAt cX6_usesAt 2 (some .int) :: ([.fieldLink RX6 18 "SecretBroker$Tokens" "uses" "[I", .methodLink RX6 29 ⟨"SecretBroker$Tokens", "has", "(I)Z"⟩, .sameMethod "SecretBroker$Tokens" "SecretBroker$Leased" "has" "(I)Z", .selects RX6 ⟨"SecretBroker$Tokens", "has", "(I)Z"⟩ yX2_has, .instanceMethod yX2_has, .initialized RX2, .code yX2_has cX2_has 2 (some .boolean), .fieldLink RX2 25 "SecretBroker$Leased" "made" "I"] ++ wsX60 ++ wsX10)
def wsX6_takeUse : List Cond := .code yX6_takeUse cX6_takeUse 2 none :: ([.fieldLink RX6 18 "SecretBroker$Tokens" "uses" "[I", .methodLink RX6 33 ⟨"SecretBroker$Tokens", "isOn", "(I)Z"⟩, .sameMethod "SecretBroker$Tokens" "SecretBroker$Leased" "isOn" "(I)Z", .selects RX6 ⟨"SecretBroker$Tokens", "isOn", "(I)Z"⟩ yX2_isOn, .instanceMethod yX2_isOn, .initialized RX2, .code yX2_isOn cX2_isOn 2 (some .boolean), .fieldLink RX2 21 "SecretBroker$Leased" "on" "[Z", .methodLink RX2 32 ⟨"SecretBroker$Leased", "has", "(I)Z"⟩, .sameMethod "SecretBroker$Leased" "SecretBroker$Leased" "has" "(I)Z", .selects RX1 ⟨"SecretBroker$Leased", "has", "(I)Z"⟩ yX2_has, .instanceMethod yX2_has, .code yX2_has cX2_has 2 (some .boolean), .fieldLink RX2 25 "SecretBroker$Leased" "made" "I", .selects RX6 ⟨"SecretBroker$Leased", "has", "(I)Z"⟩ yX2_has] ++ wsX60 ++ wsX10)
def wsX6_freeChildren : List Cond := .code yX6_freeChildren cX6_freeChildren 3 none :: ([.fieldLink RX6 9 "SecretBroker$Tokens" "parents" "[I", .methodLink RX6 36 ⟨"SecretBroker$Tokens", "made", "()I"⟩, .sameMethod "SecretBroker$Tokens" "SecretBroker$Leased" "made" "()I", .selects RX6 ⟨"SecretBroker$Tokens", "made", "()I"⟩ yX2_made, .instanceMethod yX2_made, .initialized RX2, .code yX2_made cX2_made 1 (some .int), .fieldLink RX2 25 "SecretBroker$Leased" "made" "I", .methodLink RX6 33 ⟨"SecretBroker$Tokens", "isOn", "(I)Z"⟩, .sameMethod "SecretBroker$Tokens" "SecretBroker$Leased" "isOn" "(I)Z", .selects RX6 ⟨"SecretBroker$Tokens", "isOn", "(I)Z"⟩ yX2_isOn, .instanceMethod yX2_isOn, .code yX2_isOn cX2_isOn 2 (some .boolean), .fieldLink RX2 21 "SecretBroker$Leased" "on" "[Z", .methodLink RX2 32 ⟨"SecretBroker$Leased", "has", "(I)Z"⟩, .sameMethod "SecretBroker$Leased" "SecretBroker$Leased" "has" "(I)Z", .selects RX1 ⟨"SecretBroker$Leased", "has", "(I)Z"⟩ yX2_has, .instanceMethod yX2_has, .code yX2_has cX2_has 2 (some .boolean), .selects RX6 ⟨"SecretBroker$Leased", "has", "(I)Z"⟩ yX2_has] ++ wsX60 ++ wsX10)
def wsX6_endBelowEnded_r1 : List Cond := [Cond.fieldLink RX6 9 "SecretBroker$Tokens" "parents" "[I", Cond.methodLink RX6 36 ⟨"SecretBroker$Tokens", "made", "()I"⟩, Cond.sameMethod "SecretBroker$Tokens" "SecretBroker$Leased" "made" "()I", Cond.selects RX6 ⟨"SecretBroker$Tokens", "made", "()I"⟩ yX2_made, Cond.instanceMethod yX2_made, Cond.initialized RX2, Cond.code yX2_made cX2_made 1 (some .int), Cond.fieldLink RX2 25 "SecretBroker$Leased" "made" "I", Cond.methodLink RX6 33 ⟨"SecretBroker$Tokens", "isOn", "(I)Z"⟩, Cond.sameMethod "SecretBroker$Tokens" "SecretBroker$Leased" "isOn" "(I)Z", Cond.selects RX6 ⟨"SecretBroker$Tokens", "isOn", "(I)Z"⟩ yX2_isOn, Cond.instanceMethod yX2_isOn, Cond.code yX2_isOn cX2_isOn 2 (some .boolean), Cond.fieldLink RX2 21 "SecretBroker$Leased" "on" "[Z", Cond.methodLink RX2 32 ⟨"SecretBroker$Leased", "has", "(I)Z"⟩, Cond.sameMethod "SecretBroker$Leased" "SecretBroker$Leased" "has" "(I)Z", Cond.selects RX1 ⟨"SecretBroker$Leased", "has", "(I)Z"⟩ yX2_has, Cond.instanceMethod yX2_has, Cond.code yX2_has cX2_has 2 (some .boolean), Cond.selects RX6 ⟨"SecretBroker$Leased", "has", "(I)Z"⟩ yX2_has, Cond.methodLink RX6 40 ⟨"SecretBroker$Tokens", "end", "(I)I"⟩, Cond.sameMethod "SecretBroker$Tokens" "SecretBroker$Leased" "end" "(I)I", Cond.selects RX6 ⟨"SecretBroker$Tokens", "end", "(I)I"⟩ yX2_end, Cond.instanceMethod yX2_end]
def wsX6_endBelowEnded_r2 : List Cond := [Cond.code yX2_end cX2_end 2 (some .int), Cond.fieldLink RX2 29 "SecretBroker$Leased" "living" "I", Cond.methodLink RX2 45 ⟨"SecretBroker$Leased", "isOn", "(I)Z"⟩, Cond.sameMethod "SecretBroker$Leased" "SecretBroker$Leased" "isOn" "(I)Z", Cond.selects RX1 ⟨"SecretBroker$Leased", "isOn", "(I)Z"⟩ yX2_isOn, Cond.selects RX6 ⟨"SecretBroker$Leased", "isOn", "(I)Z"⟩ yX2_isOn]
def wsX6_endBelowEnded : List Cond := .code yX6_endBelowEnded cX6_endBelowEnded 3 (some .int) :: ((wsX6_endBelowEnded_r1 ++ wsX6_endBelowEnded_r2) ++ wsX60 ++ wsX10)
def wsX6_hangsBelow : List Cond := .code yX6_hangsBelow cX6_hangsBelow 5 (some .boolean) :: ([.methodLink RX6 48 yX6_parentAt, .instanceMethod yX6_parentAt, .selects RX6 yX6_parentAt yX6_parentAt, .initialized RX6, .code yX6_parentAt cX6_parentAt 2 (some .int), .fieldLink RX6 9 "SecretBroker$Tokens" "parents" "[I", .methodLink RX6 29 ⟨"SecretBroker$Tokens", "has", "(I)Z"⟩, .sameMethod "SecretBroker$Tokens" "SecretBroker$Leased" "has" "(I)Z", .selects RX6 ⟨"SecretBroker$Tokens", "has", "(I)Z"⟩ yX2_has, .instanceMethod yX2_has, .initialized RX2, .code yX2_has cX2_has 2 (some .boolean), .fieldLink RX2 25 "SecretBroker$Leased" "made" "I"] ++ wsX60 ++ wsX10)
def wsX6_livingBelow_r1 : List Cond := [Cond.methodLink RX6 36 ⟨"SecretBroker$Tokens", "made", "()I"⟩, Cond.sameMethod "SecretBroker$Tokens" "SecretBroker$Leased" "made" "()I", Cond.selects RX6 ⟨"SecretBroker$Tokens", "made", "()I"⟩ yX2_made, Cond.instanceMethod yX2_made, Cond.initialized RX2, Cond.code yX2_made cX2_made 1 (some .int), Cond.fieldLink RX2 25 "SecretBroker$Leased" "made" "I", Cond.methodLink RX6 33 ⟨"SecretBroker$Tokens", "isOn", "(I)Z"⟩, Cond.sameMethod "SecretBroker$Tokens" "SecretBroker$Leased" "isOn" "(I)Z", Cond.selects RX6 ⟨"SecretBroker$Tokens", "isOn", "(I)Z"⟩ yX2_isOn, Cond.instanceMethod yX2_isOn, Cond.code yX2_isOn cX2_isOn 2 (some .boolean), Cond.fieldLink RX2 21 "SecretBroker$Leased" "on" "[Z", Cond.methodLink RX2 32 ⟨"SecretBroker$Leased", "has", "(I)Z"⟩, Cond.sameMethod "SecretBroker$Leased" "SecretBroker$Leased" "has" "(I)Z", Cond.selects RX1 ⟨"SecretBroker$Leased", "has", "(I)Z"⟩ yX2_has, Cond.instanceMethod yX2_has, Cond.code yX2_has cX2_has 2 (some .boolean), Cond.selects RX6 ⟨"SecretBroker$Leased", "has", "(I)Z"⟩ yX2_has, Cond.methodLink RX6 44 yX6_hangsBelow, Cond.instanceMethod yX6_hangsBelow, Cond.selects RX6 yX6_hangsBelow yX6_hangsBelow, Cond.initialized RX6, Cond.code yX6_hangsBelow cX6_hangsBelow 5 (some .boolean)]
def wsX6_livingBelow_r2 : List Cond := [Cond.methodLink RX6 48 yX6_parentAt, Cond.instanceMethod yX6_parentAt, Cond.selects RX6 yX6_parentAt yX6_parentAt, Cond.code yX6_parentAt cX6_parentAt 2 (some .int), Cond.fieldLink RX6 9 "SecretBroker$Tokens" "parents" "[I", Cond.methodLink RX6 29 ⟨"SecretBroker$Tokens", "has", "(I)Z"⟩, Cond.sameMethod "SecretBroker$Tokens" "SecretBroker$Leased" "has" "(I)Z", Cond.selects RX6 ⟨"SecretBroker$Tokens", "has", "(I)Z"⟩ yX2_has]
def wsX6_livingBelow : List Cond := .code yX6_livingBelow cX6_livingBelow 4 (some .int) :: ((wsX6_livingBelow_r1 ++ wsX6_livingBelow_r2) ++ wsX10 ++ wsX60)
def wsX7_init_r1 : List Cond := [Cond.methodLink RX7 1 objectInit, Cond.instanceMethod objectInit, Cond.code objectInit ⟨#[0xb1]⟩ 1 none, Cond.classLink RX7 7 RX5, Cond.instantiable RX5 5, Cond.initialized RX5, Cond.fieldLink RX7 10 "SecretBroker" "policyTable" "LSecretBroker$Policies;", Cond.classLink RX7 16 RX3, Cond.instantiable RX3 4, Cond.initialized RX3, Cond.fieldLink RX7 19 "SecretBroker" "mountTable" "LSecretBroker$Mounts;", Cond.classLink RX7 23 RX6, Cond.instantiable RX6 9, Cond.initialized RX6, Cond.fieldLink RX7 26 "SecretBroker" "tokenTable" "LSecretBroker$Tokens;", Cond.classLink RX7 30 RX1, Cond.instantiable RX1 8, Cond.initialized RX1, Cond.fieldLink RX7 33 "SecretBroker" "credentialTable" "LSecretBroker$Credentials;", Cond.classLink RX7 37 RX0, Cond.instantiable RX0 5, Cond.initialized RX0, Cond.fieldLink RX7 40 "SecretBroker" "audit" "LSecretBroker$Audit;", Cond.fieldLink RX7 44 "SecretBroker" "now" "I"]
def wsX7_init_r2 : List Cond := [Cond.instanceMethod yX5_init, Cond.code yX5_init cX5_init 1 none, Cond.methodLink RX5 3 objectInit, Cond.arrayClass .int, Cond.fieldLink RX5 9 "SecretBroker$Policies" "ruleCounts" "[I", Cond.fieldLink RX5 15 "SecretBroker$Policies" "patterns" "[I", Cond.arrayClass .boolean, Cond.fieldLink RX5 18 "SecretBroker$Policies" "opens" "[Z", Cond.fieldLink RX5 22 "SecretBroker$Policies" "sets" "[I", Cond.fieldLink RX5 25 "SecretBroker$Policies" "count" "I", Cond.instanceMethod yX3_init, Cond.code yX3_init cX3_init 1 none, Cond.methodLink RX3 3 objectInit, Cond.fieldLink RX3 9 "SecretBroker$Mounts" "paths" "[I", Cond.fieldLink RX3 15 "SecretBroker$Mounts" "minutes" "[I", Cond.fieldLink RX3 18 "SecretBroker$Mounts" "bounds" "[I", Cond.fieldLink RX3 21 "SecretBroker$Mounts" "count" "I", Cond.methodLink RX7 25 yX6_init, Cond.instanceMethod yX6_init, Cond.code yX6_init cX6_init 1 none, Cond.fieldLink RX6 9 "SecretBroker$Tokens" "parents" "[I", Cond.fieldLink RX6 15 "SecretBroker$Tokens" "policySets" "[I", Cond.fieldLink RX6 18 "SecretBroker$Tokens" "uses" "[I", Cond.instanceMethod yX2_init]
def wsX7_init_r3 : List Cond := [Cond.initialized RX2, Cond.code yX2_init cX2_init 1 none, Cond.methodLink RX2 3 objectInit, Cond.fieldLink RX2 9 "SecretBroker$Leased" "beginnings" "[I", Cond.fieldLink RX2 15 "SecretBroker$Leased" "ends" "[I", Cond.fieldLink RX2 18 "SecretBroker$Leased" "bounds" "[I", Cond.fieldLink RX2 21 "SecretBroker$Leased" "on" "[Z", Cond.fieldLink RX2 25 "SecretBroker$Leased" "made" "I", Cond.fieldLink RX2 29 "SecretBroker$Leased" "living" "I", Cond.methodLink RX6 21 ⟨"SecretBroker$Tokens", "add", "(III)I"⟩, Cond.sameMethod "SecretBroker$Tokens" "SecretBroker$Leased" "add" "(III)I", Cond.selects RX6 ⟨"SecretBroker$Tokens", "add", "(III)I"⟩ yX2_add, Cond.instanceMethod yX2_add, Cond.code yX2_add cX2_add 4 (some .int), Cond.methodLink RX6 25 yX6_describe, Cond.instanceMethod yX6_describe, Cond.selects RX6 yX6_describe yX6_describe, Cond.code yX6_describe cX6_describe 5 none, Cond.methodLink RX6 29 ⟨"SecretBroker$Tokens", "has", "(I)Z"⟩, Cond.sameMethod "SecretBroker$Tokens" "SecretBroker$Leased" "has" "(I)Z", Cond.selects RX6 ⟨"SecretBroker$Tokens", "has", "(I)Z"⟩ yX2_has, Cond.instanceMethod yX2_has, Cond.code yX2_has cX2_has 2 (some .boolean), Cond.instanceMethod yX1_init]
def wsX7_init_r4 : List Cond := [Cond.code yX1_init cX1_init 1 none, Cond.fieldLink RX1 9 "SecretBroker$Credentials" "owners" "[I", Cond.fieldLink RX1 15 "SecretBroker$Credentials" "paths" "[I", Cond.instanceMethod yX0_init, Cond.code yX0_init cX0_init 1 none, Cond.methodLink RX0 3 objectInit, Cond.fieldLink RX0 9 "SecretBroker$Audit" "kinds" "[I", Cond.fieldLink RX0 15 "SecretBroker$Audit" "subjects" "[I", Cond.fieldLink RX0 18 "SecretBroker$Audit" "details" "[I", Cond.arrayClass .long, Cond.fieldLink RX0 21 "SecretBroker$Audit" "sums" "[J", Cond.fieldLink RX0 25 "SecretBroker$Audit" "count" "I"]
def wsX7_init : List Cond := .code yX7_init cX7_init 1 none :: ((wsX7_init_r1 ++ (wsX7_init_r2 ++ (wsX7_init_r3 ++ wsX7_init_r4))) ++ wsX50 ++ wsX70 ++ wsX30 ++ wsX60 ++ wsX10 ++ wsX00)
def wsX7_policy : List Cond := .code yX7_policy cX7_policy 1 (some .int) :: ([.classLink RX7 52 "java/lang/IllegalStateException", .initialized "java/lang/IllegalStateException", .fieldLink RX7 10 "SecretBroker" "policyTable" "LSecretBroker$Policies;", .methodLink RX7 48 yX5_count, .instanceMethod yX5_count, .selects RX5 yX5_count yX5_count, .initialized RX5, .code yX5_count cX5_count 1 (some .int), .fieldLink RX5 25 "SecretBroker$Policies" "count" "I", .methodLink RX7 59 yX5_add, .instanceMethod yX5_add, .selects RX5 yX5_add yX5_add, .code yX5_add cX5_add 1 (some .int)] ++ wsX70 ++ wsX50 ++ (vx_atS RX7 56 "java/lang/IllegalStateException" ["java/lang/RuntimeException", "java/lang/Exception"]).filter goodWord)
def wsX7_checkPolicy : List Cond := .code yX7_checkPolicy cX7_checkPolicy 2 none :: ([.classLink RX7 243 "java/lang/IndexOutOfBoundsException", .initialized "java/lang/IndexOutOfBoundsException", .fieldLink RX7 10 "SecretBroker" "policyTable" "LSecretBroker$Policies;", .methodLink RX7 240 yX5_has, .instanceMethod yX5_has, .selects RX5 yX5_has yX5_has, .initialized RX5, .code yX5_has cX5_has 2 (some .boolean), .fieldLink RX5 25 "SecretBroker$Policies" "count" "I"] ++ wsX70 ++ wsX50 ++ (vx_atS RX7 247 "java/lang/IndexOutOfBoundsException" ["java/lang/RuntimeException", "java/lang/Exception"]).filter goodWord)
def wsX7_checkRange : List Cond := .code yX7_checkRange cX7_checkRange 3 none :: ([.classLink RX7 72 "java/lang/IllegalArgumentException", .initialized "java/lang/IllegalArgumentException"] ++ (vx_atS RX7 76 "java/lang/IllegalArgumentException" ["java/lang/RuntimeException", "java/lang/Exception"]).filter goodWord)
def wsX7_allow_r1 : List Cond := [Cond.classLink RX7 72 "java/lang/IllegalArgumentException", Cond.initialized "java/lang/IllegalArgumentException", Cond.classLink RX7 52 "java/lang/IllegalStateException", Cond.initialized "java/lang/IllegalStateException", Cond.fieldLink RX7 10 "SecretBroker" "policyTable" "LSecretBroker$Policies;", Cond.methodLink RX7 62 yX7_checkPolicy, Cond.instanceMethod yX7_checkPolicy, Cond.selects RX7 yX7_checkPolicy yX7_checkPolicy, Cond.initialized RX7, Cond.code yX7_checkPolicy cX7_checkPolicy 2 none, Cond.classLink RX7 243 "java/lang/IndexOutOfBoundsException", Cond.initialized "java/lang/IndexOutOfBoundsException", Cond.methodLink RX7 240 yX5_has, Cond.instanceMethod yX5_has, Cond.selects RX5 yX5_has yX5_has, Cond.initialized RX5, Cond.code yX5_has cX5_has 2 (some .boolean), Cond.fieldLink RX5 25 "SecretBroker$Policies" "count" "I", Cond.methodLink RX7 66 yX4_isPattern, Cond.static yX4_isPattern, Cond.initialized RX4, Cond.code yX4_isPattern cX4_isPattern 1 (some .boolean), Cond.methodLink RX4 9 yX4_hasDigits, Cond.static yX4_hasDigits]
def wsX7_allow_r2 : List Cond := [Cond.code yX4_hasDigits cX4_hasDigits 5 (some .boolean), Cond.constant RX4 15 (999999), Cond.methodLink RX7 77 yX7_checkRange, Cond.static yX7_checkRange, Cond.code yX7_checkRange cX7_checkRange 3 none, Cond.methodLink RX7 81 yX5_find, Cond.instanceMethod yX5_find, Cond.selects RX5 yX5_find yX5_find, Cond.code yX5_find cX5_find 7 (some .int), Cond.fieldLink RX5 15 "SecretBroker$Policies" "patterns" "[I", Cond.fieldLink RX5 18 "SecretBroker$Policies" "opens" "[Z", Cond.methodLink RX5 33 yX5_rulesOf, Cond.instanceMethod yX5_rulesOf, Cond.selects RX5 yX5_rulesOf yX5_rulesOf, Cond.code yX5_rulesOf cX5_rulesOf 2 (some .int), Cond.fieldLink RX5 9 "SecretBroker$Policies" "ruleCounts" "[I", Cond.methodLink RX5 29 yX5_has, Cond.methodLink RX7 85 yX5_rulesOf, Cond.methodLink RX7 91 yX5_put, Cond.instanceMethod yX5_put, Cond.selects RX5 yX5_put yX5_put, Cond.code yX5_put cX5_put 6 none, Cond.fieldLink RX5 22 "SecretBroker$Policies" "sets" "[I", Cond.methodLink RX5 37 yX5_find]
def wsX7_allow_r3 : List Cond := [Cond.methodLink RX5 41 yX5_addRule, Cond.instanceMethod yX5_addRule, Cond.selects RX5 yX5_addRule yX5_addRule, Cond.code yX5_addRule cX5_addRule 2 (some .int)]
def wsX7_allow : List Cond := .code yX7_allow cX7_allow 6 (some .int) :: ((wsX7_allow_r1 ++ (wsX7_allow_r2 ++ wsX7_allow_r3)) ++ wsX70 ++ wsX50 ++ (vx_atS RX7 76 "java/lang/IllegalArgumentException" ["java/lang/RuntimeException", "java/lang/Exception"]).filter goodWord ++ (vx_atS RX7 56 "java/lang/IllegalStateException" ["java/lang/RuntimeException", "java/lang/Exception"]).filter goodWord ++ (vx_atS RX7 247 "java/lang/IndexOutOfBoundsException" ["java/lang/RuntimeException", "java/lang/Exception"]).filter goodWord)
def wsX7_checkPath : List Cond := .code yX7_checkPath cX7_checkPath 1 none :: ([.classLink RX7 72 "java/lang/IllegalArgumentException", .initialized "java/lang/IllegalArgumentException", .methodLink RX7 261 yX4_isPath, .static yX4_isPath, .initialized RX4, .code yX4_isPath cX4_isPath 1 (some .boolean), .methodLink RX4 9 yX4_hasDigits, .static yX4_hasDigits, .code yX4_hasDigits cX4_hasDigits 5 (some .boolean), .constant RX4 15 (999999)] ++ (vx_atS RX7 76 "java/lang/IllegalArgumentException" ["java/lang/RuntimeException", "java/lang/Exception"]).filter goodWord)
def wsX7_checkLease : List Cond := .code yX7_checkLease cX7_checkLease 2 none :: ([.methodLink RX7 77 yX7_checkRange, .static yX7_checkRange, .initialized RX7, .code yX7_checkRange cX7_checkRange 3 none, .classLink RX7 72 "java/lang/IllegalArgumentException", .initialized "java/lang/IllegalArgumentException"] ++ (vx_atS RX7 76 "java/lang/IllegalArgumentException" ["java/lang/RuntimeException", "java/lang/Exception"]).filter goodWord)
def wsX7_mount_r1 : List Cond := [Cond.classLink RX7 52 "java/lang/IllegalStateException", Cond.initialized "java/lang/IllegalStateException", Cond.fieldLink RX7 19 "SecretBroker" "mountTable" "LSecretBroker$Mounts;", Cond.methodLink RX7 98 yX7_checkPath, Cond.static yX7_checkPath, Cond.initialized RX7, Cond.code yX7_checkPath cX7_checkPath 1 none, Cond.classLink RX7 72 "java/lang/IllegalArgumentException", Cond.initialized "java/lang/IllegalArgumentException", Cond.methodLink RX7 261 yX4_isPath, Cond.static yX4_isPath, Cond.initialized RX4, Cond.code yX4_isPath cX4_isPath 1 (some .boolean), Cond.methodLink RX4 9 yX4_hasDigits, Cond.static yX4_hasDigits, Cond.code yX4_hasDigits cX4_hasDigits 5 (some .boolean), Cond.constant RX4 15 (999999), Cond.methodLink RX7 101 yX7_checkLease, Cond.static yX7_checkLease, Cond.code yX7_checkLease cX7_checkLease 2 none, Cond.methodLink RX7 77 yX7_checkRange, Cond.static yX7_checkRange, Cond.code yX7_checkRange cX7_checkRange 3 none, Cond.methodLink RX7 105 yX3_find]
def wsX7_mount_r2 : List Cond := [Cond.instanceMethod yX3_find, Cond.selects RX3 yX3_find yX3_find, Cond.initialized RX3, Cond.code yX3_find cX3_find 3 (some .int), Cond.fieldLink RX3 21 "SecretBroker$Mounts" "count" "I", Cond.fieldLink RX3 9 "SecretBroker$Mounts" "paths" "[I", Cond.methodLink RX7 107 yX3_count, Cond.instanceMethod yX3_count, Cond.selects RX3 yX3_count yX3_count, Cond.code yX3_count cX3_count 1 (some .int), Cond.methodLink RX7 110 yX3_put, Cond.instanceMethod yX3_put, Cond.selects RX3 yX3_put yX3_put, Cond.code yX3_put cX3_put 5 none, Cond.fieldLink RX3 15 "SecretBroker$Mounts" "minutes" "[I", Cond.fieldLink RX3 18 "SecretBroker$Mounts" "bounds" "[I", Cond.methodLink RX3 25 yX3_find]
def wsX7_mount : List Cond := .code yX7_mount cX7_mount 4 (some .int) :: ((wsX7_mount_r1 ++ wsX7_mount_r2) ++ wsX70 ++ wsX30 ++ (vx_atS RX7 56 "java/lang/IllegalStateException" ["java/lang/RuntimeException", "java/lang/Exception"]).filter goodWord ++ (vx_atS RX7 76 "java/lang/IllegalArgumentException" ["java/lang/RuntimeException", "java/lang/Exception"]).filter goodWord)
def wsX7_checkToken : List Cond := .code yX7_checkToken cX7_checkToken 2 none :: ([.classLink RX7 243 "java/lang/IndexOutOfBoundsException", .initialized "java/lang/IndexOutOfBoundsException", .fieldLink RX7 26 "SecretBroker" "tokenTable" "LSecretBroker$Tokens;", .methodLink RX7 248 ⟨"SecretBroker$Tokens", "has", "(I)Z"⟩, .sameMethod "SecretBroker$Tokens" "SecretBroker$Leased" "has" "(I)Z", .selects RX6 ⟨"SecretBroker$Tokens", "has", "(I)Z"⟩ yX2_has, .instanceMethod yX2_has, .initialized RX2, .code yX2_has cX2_has 2 (some .boolean), .fieldLink RX2 25 "SecretBroker$Leased" "made" "I"] ++ wsX70 ++ wsX10 ++ wsX60 ++ (vx_atS RX7 247 "java/lang/IndexOutOfBoundsException" ["java/lang/RuntimeException", "java/lang/Exception"]).filter goodWord)
def wsX7_mayHand : List Cond := .code yX7_mayHand cX7_mayHand 3 (some .boolean) :: ([.fieldLink RX7 10 "SecretBroker" "policyTable" "LSecretBroker$Policies;", .fieldLink RX7 26 "SecretBroker" "tokenTable" "LSecretBroker$Tokens;", .methodLink RX7 268 yX5_hasAll, .instanceMethod yX5_hasAll, .selects RX5 yX5_hasAll yX5_hasAll, .initialized RX5, .code yX5_hasAll cX5_hasAll 2 (some .boolean), .fieldLink RX5 25 "SecretBroker$Policies" "count" "I", .methodLink RX7 271 yX6_policiesAt, .instanceMethod yX6_policiesAt, .selects RX6 yX6_policiesAt yX6_policiesAt, .initialized RX6, .code yX6_policiesAt cX6_policiesAt 2 (some .int), .fieldLink RX6 15 "SecretBroker$Tokens" "policySets" "[I", .methodLink RX6 29 ⟨"SecretBroker$Tokens", "has", "(I)Z"⟩, .sameMethod "SecretBroker$Tokens" "SecretBroker$Leased" "has" "(I)Z", .selects RX6 ⟨"SecretBroker$Tokens", "has", "(I)Z"⟩ yX2_has, .instanceMethod yX2_has, .initialized RX2, .code yX2_has cX2_has 2 (some .boolean), .fieldLink RX2 25 "SecretBroker$Leased" "made" "I"] ++ wsX70 ++ wsX50 ++ wsX60 ++ wsX10)
def wsX7_checkAliveToken : List Cond := .code yX7_checkAliveToken cX7_checkAliveToken 2 none :: ([.classLink RX7 52 "java/lang/IllegalStateException", .initialized "java/lang/IllegalStateException", .fieldLink RX7 26 "SecretBroker" "tokenTable" "LSecretBroker$Tokens;", .methodLink RX7 158 ⟨"SecretBroker$Tokens", "isOn", "(I)Z"⟩, .sameMethod "SecretBroker$Tokens" "SecretBroker$Leased" "isOn" "(I)Z", .selects RX6 ⟨"SecretBroker$Tokens", "isOn", "(I)Z"⟩ yX2_isOn, .instanceMethod yX2_isOn, .initialized RX2, .code yX2_isOn cX2_isOn 2 (some .boolean), .fieldLink RX2 21 "SecretBroker$Leased" "on" "[Z", .methodLink RX2 32 ⟨"SecretBroker$Leased", "has", "(I)Z"⟩, .sameMethod "SecretBroker$Leased" "SecretBroker$Leased" "has" "(I)Z", .selects RX1 ⟨"SecretBroker$Leased", "has", "(I)Z"⟩ yX2_has, .instanceMethod yX2_has, .code yX2_has cX2_has 2 (some .boolean), .fieldLink RX2 25 "SecretBroker$Leased" "made" "I", .selects RX6 ⟨"SecretBroker$Leased", "has", "(I)Z"⟩ yX2_has] ++ wsX70 ++ wsX10 ++ wsX60 ++ (vx_atS RX7 56 "java/lang/IllegalStateException" ["java/lang/RuntimeException", "java/lang/Exception"]).filter goodWord)
def wsX7_create_r1 : List Cond := [Cond.classLink RX7 72 "java/lang/IllegalArgumentException", Cond.initialized "java/lang/IllegalArgumentException", Cond.classLink RX7 52 "java/lang/IllegalStateException", Cond.initialized "java/lang/IllegalStateException", Cond.fieldLink RX7 26 "SecretBroker" "tokenTable" "LSecretBroker$Tokens;", Cond.fieldLink RX7 44 "SecretBroker" "now" "I", Cond.fieldLink RX7 40 "SecretBroker" "audit" "LSecretBroker$Audit;", Cond.methodLink RX7 112 yX7_checkToken, Cond.instanceMethod yX7_checkToken, Cond.selects RX7 yX7_checkToken yX7_checkToken, Cond.initialized RX7, Cond.code yX7_checkToken cX7_checkToken 2 none, Cond.classLink RX7 243 "java/lang/IndexOutOfBoundsException", Cond.initialized "java/lang/IndexOutOfBoundsException", Cond.methodLink RX7 248 ⟨"SecretBroker$Tokens", "has", "(I)Z"⟩, Cond.sameMethod "SecretBroker$Tokens" "SecretBroker$Leased" "has" "(I)Z", Cond.selects RX6 ⟨"SecretBroker$Tokens", "has", "(I)Z"⟩ yX2_has, Cond.instanceMethod yX2_has, Cond.initialized RX2, Cond.code yX2_has cX2_has 2 (some .boolean), Cond.fieldLink RX2 25 "SecretBroker$Leased" "made" "I", Cond.methodLink RX7 115 yX7_mayHand, Cond.instanceMethod yX7_mayHand, Cond.selects RX7 yX7_mayHand yX7_mayHand]
def wsX7_create_r2 : List Cond := [Cond.code yX7_mayHand cX7_mayHand 3 (some .boolean), Cond.fieldLink RX7 10 "SecretBroker" "policyTable" "LSecretBroker$Policies;", Cond.methodLink RX7 268 yX5_hasAll, Cond.instanceMethod yX5_hasAll, Cond.selects RX5 yX5_hasAll yX5_hasAll, Cond.initialized RX5, Cond.code yX5_hasAll cX5_hasAll 2 (some .boolean), Cond.fieldLink RX5 25 "SecretBroker$Policies" "count" "I", Cond.methodLink RX7 271 yX6_policiesAt, Cond.instanceMethod yX6_policiesAt, Cond.selects RX6 yX6_policiesAt yX6_policiesAt, Cond.initialized RX6, Cond.code yX6_policiesAt cX6_policiesAt 2 (some .int), Cond.fieldLink RX6 15 "SecretBroker$Tokens" "policySets" "[I", Cond.methodLink RX6 29 ⟨"SecretBroker$Tokens", "has", "(I)Z"⟩, Cond.methodLink RX7 101 yX7_checkLease, Cond.static yX7_checkLease, Cond.code yX7_checkLease cX7_checkLease 2 none, Cond.methodLink RX7 77 yX7_checkRange, Cond.static yX7_checkRange, Cond.code yX7_checkRange cX7_checkRange 3 none, Cond.methodLink RX7 121 yX7_checkAliveToken, Cond.instanceMethod yX7_checkAliveToken, Cond.selects RX7 yX7_checkAliveToken yX7_checkAliveToken]
def wsX7_create_r3 : List Cond := [Cond.code yX7_checkAliveToken cX7_checkAliveToken 2 none, Cond.methodLink RX7 158 ⟨"SecretBroker$Tokens", "isOn", "(I)Z"⟩, Cond.sameMethod "SecretBroker$Tokens" "SecretBroker$Leased" "isOn" "(I)Z", Cond.selects RX6 ⟨"SecretBroker$Tokens", "isOn", "(I)Z"⟩ yX2_isOn, Cond.instanceMethod yX2_isOn, Cond.code yX2_isOn cX2_isOn 2 (some .boolean), Cond.fieldLink RX2 21 "SecretBroker$Leased" "on" "[Z", Cond.methodLink RX2 32 ⟨"SecretBroker$Leased", "has", "(I)Z"⟩, Cond.sameMethod "SecretBroker$Leased" "SecretBroker$Leased" "has" "(I)Z", Cond.selects RX1 ⟨"SecretBroker$Leased", "has", "(I)Z"⟩ yX2_has, Cond.selects RX6 ⟨"SecretBroker$Leased", "has", "(I)Z"⟩ yX2_has, Cond.methodLink RX7 124 ⟨"SecretBroker$Tokens", "living", "()I"⟩, Cond.sameMethod "SecretBroker$Tokens" "SecretBroker$Leased" "living" "()I", Cond.selects RX6 ⟨"SecretBroker$Tokens", "living", "()I"⟩ yX2_living, Cond.instanceMethod yX2_living, Cond.code yX2_living cX2_living 1 (some .int), Cond.fieldLink RX2 29 "SecretBroker$Leased" "living" "I", Cond.methodLink RX7 127 ⟨"SecretBroker$Tokens", "isFull", "()Z"⟩, Cond.sameMethod "SecretBroker$Tokens" "SecretBroker$Leased" "isFull" "()Z", Cond.selects RX6 ⟨"SecretBroker$Tokens", "isFull", "()Z"⟩ yX2_isFull, Cond.instanceMethod yX2_isFull, Cond.code yX2_isFull cX2_isFull 1 (some .boolean), Cond.methodLink RX7 133 ⟨"SecretBroker$Tokens", "add", "(III)I"⟩, Cond.sameMethod "SecretBroker$Tokens" "SecretBroker$Leased" "add" "(III)I"]
def wsX7_create_r4 : List Cond := [Cond.selects RX6 ⟨"SecretBroker$Tokens", "add", "(III)I"⟩ yX2_add, Cond.instanceMethod yX2_add, Cond.code yX2_add cX2_add 4 (some .int), Cond.fieldLink RX2 9 "SecretBroker$Leased" "beginnings" "[I", Cond.fieldLink RX2 15 "SecretBroker$Leased" "ends" "[I", Cond.fieldLink RX2 18 "SecretBroker$Leased" "bounds" "[I", Cond.methodLink RX7 136 yX6_describe, Cond.instanceMethod yX6_describe, Cond.selects RX6 yX6_describe yX6_describe, Cond.code yX6_describe cX6_describe 5 none, Cond.fieldLink RX6 9 "SecretBroker$Tokens" "parents" "[I", Cond.fieldLink RX6 18 "SecretBroker$Tokens" "uses" "[I", Cond.methodLink RX7 140 yX0_write, Cond.instanceMethod yX0_write, Cond.selects RX0 yX0_write yX0_write, Cond.initialized RX0, Cond.code yX0_write cX0_write 7 none, Cond.fieldLink RX0 25 "SecretBroker$Audit" "count" "I", Cond.constantLong RX0 29 (17), Cond.fieldLink RX0 21 "SecretBroker$Audit" "sums" "[J", Cond.fieldLink RX0 9 "SecretBroker$Audit" "kinds" "[I", Cond.fieldLink RX0 15 "SecretBroker$Audit" "subjects" "[I", Cond.fieldLink RX0 18 "SecretBroker$Audit" "details" "[I", Cond.constantLong RX0 31 (31)]
def wsX7_create_r5 : List Cond := [Cond.constantLong RX0 33 (7), Cond.constantLong RX0 35 (5), Cond.constantLong RX0 37 (3), Cond.constantLong RX0 39 (1000003)]
def wsX7_create : List Cond := .code yX7_create cX7_create 7 (some .int) :: ((wsX7_create_r1 ++ (wsX7_create_r2 ++ (wsX7_create_r3 ++ (wsX7_create_r4 ++ wsX7_create_r5)))) ++ wsX70 ++ wsX10 ++ wsX60 ++ wsX50 ++ wsX00 ++ (vx_atS RX7 76 "java/lang/IllegalArgumentException" ["java/lang/RuntimeException", "java/lang/Exception"]).filter goodWord ++ (vx_atS RX7 56 "java/lang/IllegalStateException" ["java/lang/RuntimeException", "java/lang/Exception"]).filter goodWord ++ (vx_atS RX7 247 "java/lang/IndexOutOfBoundsException" ["java/lang/RuntimeException", "java/lang/Exception"]).filter goodWord)
def wsX7_checkEndingToken : List Cond := .code yX7_checkEndingToken cX7_checkEndingToken 2 none :: ([.classLink RX7 52 "java/lang/IllegalStateException", .initialized "java/lang/IllegalStateException", .methodLink RX7 121 yX7_checkAliveToken, .instanceMethod yX7_checkAliveToken, .selects RX7 yX7_checkAliveToken yX7_checkAliveToken, .initialized RX7, .code yX7_checkAliveToken cX7_checkAliveToken 2 none, .fieldLink RX7 26 "SecretBroker" "tokenTable" "LSecretBroker$Tokens;", .methodLink RX7 158 ⟨"SecretBroker$Tokens", "isOn", "(I)Z"⟩, .sameMethod "SecretBroker$Tokens" "SecretBroker$Leased" "isOn" "(I)Z", .selects RX6 ⟨"SecretBroker$Tokens", "isOn", "(I)Z"⟩ yX2_isOn, .instanceMethod yX2_isOn, .initialized RX2, .code yX2_isOn cX2_isOn 2 (some .boolean), .fieldLink RX2 21 "SecretBroker$Leased" "on" "[Z", .methodLink RX2 32 ⟨"SecretBroker$Leased", "has", "(I)Z"⟩, .sameMethod "SecretBroker$Leased" "SecretBroker$Leased" "has" "(I)Z", .selects RX1 ⟨"SecretBroker$Leased", "has", "(I)Z"⟩ yX2_has, .instanceMethod yX2_has, .code yX2_has cX2_has 2 (some .boolean), .fieldLink RX2 25 "SecretBroker$Leased" "made" "I", .selects RX6 ⟨"SecretBroker$Leased", "has", "(I)Z"⟩ yX2_has] ++ wsX70 ++ wsX10 ++ wsX60 ++ (vx_atS RX7 56 "java/lang/IllegalStateException" ["java/lang/RuntimeException", "java/lang/Exception"]).filter goodWord)
def wsX7_renew_r1 : List Cond := [Cond.fieldLink RX7 26 "SecretBroker" "tokenTable" "LSecretBroker$Tokens;", Cond.fieldLink RX7 44 "SecretBroker" "now" "I", Cond.fieldLink RX7 40 "SecretBroker" "audit" "LSecretBroker$Audit;", Cond.methodLink RX7 112 yX7_checkToken, Cond.instanceMethod yX7_checkToken, Cond.selects RX7 yX7_checkToken yX7_checkToken, Cond.initialized RX7, Cond.code yX7_checkToken cX7_checkToken 2 none, Cond.classLink RX7 243 "java/lang/IndexOutOfBoundsException", Cond.initialized "java/lang/IndexOutOfBoundsException", Cond.methodLink RX7 248 ⟨"SecretBroker$Tokens", "has", "(I)Z"⟩, Cond.sameMethod "SecretBroker$Tokens" "SecretBroker$Leased" "has" "(I)Z", Cond.selects RX6 ⟨"SecretBroker$Tokens", "has", "(I)Z"⟩ yX2_has, Cond.instanceMethod yX2_has, Cond.initialized RX2, Cond.code yX2_has cX2_has 2 (some .boolean), Cond.fieldLink RX2 25 "SecretBroker$Leased" "made" "I", Cond.methodLink RX7 77 yX7_checkRange, Cond.static yX7_checkRange, Cond.code yX7_checkRange cX7_checkRange 3 none, Cond.classLink RX7 72 "java/lang/IllegalArgumentException", Cond.initialized "java/lang/IllegalArgumentException", Cond.methodLink RX7 143 yX7_checkEndingToken, Cond.instanceMethod yX7_checkEndingToken]
def wsX7_renew_r2 : List Cond := [Cond.selects RX7 yX7_checkEndingToken yX7_checkEndingToken, Cond.code yX7_checkEndingToken cX7_checkEndingToken 2 none, Cond.classLink RX7 52 "java/lang/IllegalStateException", Cond.initialized "java/lang/IllegalStateException", Cond.methodLink RX7 121 yX7_checkAliveToken, Cond.instanceMethod yX7_checkAliveToken, Cond.selects RX7 yX7_checkAliveToken yX7_checkAliveToken, Cond.code yX7_checkAliveToken cX7_checkAliveToken 2 none, Cond.methodLink RX7 158 ⟨"SecretBroker$Tokens", "isOn", "(I)Z"⟩, Cond.sameMethod "SecretBroker$Tokens" "SecretBroker$Leased" "isOn" "(I)Z", Cond.selects RX6 ⟨"SecretBroker$Tokens", "isOn", "(I)Z"⟩ yX2_isOn, Cond.instanceMethod yX2_isOn, Cond.code yX2_isOn cX2_isOn 2 (some .boolean), Cond.fieldLink RX2 21 "SecretBroker$Leased" "on" "[Z", Cond.methodLink RX2 32 ⟨"SecretBroker$Leased", "has", "(I)Z"⟩, Cond.sameMethod "SecretBroker$Leased" "SecretBroker$Leased" "has" "(I)Z", Cond.selects RX1 ⟨"SecretBroker$Leased", "has", "(I)Z"⟩ yX2_has, Cond.selects RX6 ⟨"SecretBroker$Leased", "has", "(I)Z"⟩ yX2_has, Cond.methodLink RX7 146 ⟨"SecretBroker$Tokens", "prolong", "(III)V"⟩, Cond.sameMethod "SecretBroker$Tokens" "SecretBroker$Leased" "prolong" "(III)V", Cond.selects RX6 ⟨"SecretBroker$Tokens", "prolong", "(III)V"⟩ yX2_prolong, Cond.instanceMethod yX2_prolong, Cond.code yX2_prolong cX2_prolong 5 none, Cond.fieldLink RX2 9 "SecretBroker$Leased" "beginnings" "[I"]
def wsX7_renew_r3 : List Cond := [Cond.fieldLink RX2 18 "SecretBroker$Leased" "bounds" "[I", Cond.fieldLink RX2 15 "SecretBroker$Leased" "ends" "[I", Cond.methodLink RX2 36 Lib.Math.min.name, Cond.static Lib.Math.min.name, Cond.initialized "java/lang/Math", Cond.code Lib.Math.min.name Lib.Math.min.code 2 (some .int), Cond.methodLink RX2 42 Lib.Math.max.name, Cond.static Lib.Math.max.name, Cond.code Lib.Math.max.name Lib.Math.max.code 2 (some .int), Cond.methodLink RX7 149 ⟨"SecretBroker$Tokens", "endAt", "(I)I"⟩, Cond.sameMethod "SecretBroker$Tokens" "SecretBroker$Leased" "endAt" "(I)I", Cond.selects RX6 ⟨"SecretBroker$Tokens", "endAt", "(I)I"⟩ yX2_endAt, Cond.instanceMethod yX2_endAt, Cond.code yX2_endAt cX2_endAt 2 (some .int), Cond.methodLink RX7 140 yX0_write, Cond.instanceMethod yX0_write, Cond.selects RX0 yX0_write yX0_write, Cond.initialized RX0, Cond.code yX0_write cX0_write 7 none, Cond.fieldLink RX0 25 "SecretBroker$Audit" "count" "I", Cond.constantLong RX0 29 (17), Cond.fieldLink RX0 21 "SecretBroker$Audit" "sums" "[J", Cond.fieldLink RX0 9 "SecretBroker$Audit" "kinds" "[I", Cond.fieldLink RX0 15 "SecretBroker$Audit" "subjects" "[I"]
def wsX7_renew_r4 : List Cond := [Cond.fieldLink RX0 18 "SecretBroker$Audit" "details" "[I", Cond.constantLong RX0 31 (31), Cond.constantLong RX0 33 (7), Cond.constantLong RX0 35 (5), Cond.constantLong RX0 37 (3), Cond.constantLong RX0 39 (1000003)]
def wsX7_renew : List Cond := .code yX7_renew cX7_renew 4 (some .int) :: ((wsX7_renew_r1 ++ (wsX7_renew_r2 ++ (wsX7_renew_r3 ++ wsX7_renew_r4))) ++ wsX70 ++ wsX10 ++ wsX60 ++ wsX00 ++ (vx_atS RX7 247 "java/lang/IndexOutOfBoundsException" ["java/lang/RuntimeException", "java/lang/Exception"]).filter goodWord ++ (vx_atS RX7 76 "java/lang/IllegalArgumentException" ["java/lang/RuntimeException", "java/lang/Exception"]).filter goodWord ++ (vx_atS RX7 56 "java/lang/IllegalStateException" ["java/lang/RuntimeException", "java/lang/Exception"]).filter goodWord)
def wsX7_endWhatHungOnTokens_r1 : List Cond := [Cond.fieldLink RX7 26 "SecretBroker" "tokenTable" "LSecretBroker$Tokens;", Cond.fieldLink RX7 33 "SecretBroker" "credentialTable" "LSecretBroker$Credentials;", Cond.methodLink RX7 292 yX6_endBelowEnded, Cond.instanceMethod yX6_endBelowEnded, Cond.selects RX6 yX6_endBelowEnded yX6_endBelowEnded, Cond.initialized RX6, Cond.code yX6_endBelowEnded cX6_endBelowEnded 3 (some .int), Cond.fieldLink RX6 9 "SecretBroker$Tokens" "parents" "[I", Cond.methodLink RX6 36 ⟨"SecretBroker$Tokens", "made", "()I"⟩, Cond.sameMethod "SecretBroker$Tokens" "SecretBroker$Leased" "made" "()I", Cond.selects RX6 ⟨"SecretBroker$Tokens", "made", "()I"⟩ yX2_made, Cond.instanceMethod yX2_made, Cond.initialized RX2, Cond.code yX2_made cX2_made 1 (some .int), Cond.fieldLink RX2 25 "SecretBroker$Leased" "made" "I", Cond.methodLink RX6 33 ⟨"SecretBroker$Tokens", "isOn", "(I)Z"⟩, Cond.sameMethod "SecretBroker$Tokens" "SecretBroker$Leased" "isOn" "(I)Z", Cond.selects RX6 ⟨"SecretBroker$Tokens", "isOn", "(I)Z"⟩ yX2_isOn, Cond.instanceMethod yX2_isOn, Cond.code yX2_isOn cX2_isOn 2 (some .boolean), Cond.fieldLink RX2 21 "SecretBroker$Leased" "on" "[Z", Cond.methodLink RX2 32 ⟨"SecretBroker$Leased", "has", "(I)Z"⟩, Cond.sameMethod "SecretBroker$Leased" "SecretBroker$Leased" "has" "(I)Z", Cond.selects RX1 ⟨"SecretBroker$Leased", "has", "(I)Z"⟩ yX2_has]
def wsX7_endWhatHungOnTokens_r2 : List Cond := [Cond.instanceMethod yX2_has, Cond.code yX2_has cX2_has 2 (some .boolean), Cond.selects RX6 ⟨"SecretBroker$Leased", "has", "(I)Z"⟩ yX2_has, Cond.methodLink RX6 40 ⟨"SecretBroker$Tokens", "end", "(I)I"⟩, Cond.sameMethod "SecretBroker$Tokens" "SecretBroker$Leased" "end" "(I)I", Cond.selects RX6 ⟨"SecretBroker$Tokens", "end", "(I)I"⟩ yX2_end, Cond.instanceMethod yX2_end, Cond.code yX2_end cX2_end 2 (some .int), Cond.fieldLink RX2 29 "SecretBroker$Leased" "living" "I", Cond.methodLink RX2 45 ⟨"SecretBroker$Leased", "isOn", "(I)Z"⟩, Cond.sameMethod "SecretBroker$Leased" "SecretBroker$Leased" "isOn" "(I)Z", Cond.selects RX1 ⟨"SecretBroker$Leased", "isOn", "(I)Z"⟩ yX2_isOn, Cond.selects RX6 ⟨"SecretBroker$Leased", "isOn", "(I)Z"⟩ yX2_isOn, Cond.methodLink RX7 295 yX1_endOfEnded, Cond.instanceMethod yX1_endOfEnded, Cond.selects RX1 yX1_endOfEnded yX1_endOfEnded, Cond.initialized RX1, Cond.code yX1_endOfEnded cX1_endOfEnded 4 (some .int), Cond.fieldLink RX1 9 "SecretBroker$Credentials" "owners" "[I", Cond.methodLink RX1 22 ⟨"SecretBroker$Credentials", "made", "()I"⟩, Cond.sameMethod "SecretBroker$Credentials" "SecretBroker$Leased" "made" "()I", Cond.selects RX1 ⟨"SecretBroker$Credentials", "made", "()I"⟩ yX2_made, Cond.methodLink RX1 39 ⟨"SecretBroker$Tokens", "isOn", "(I)Z"⟩, Cond.methodLink RX1 35 ⟨"SecretBroker$Credentials", "end", "(I)I"⟩]
def wsX7_endWhatHungOnTokens_r3 : List Cond := [Cond.sameMethod "SecretBroker$Credentials" "SecretBroker$Leased" "end" "(I)I", Cond.selects RX1 ⟨"SecretBroker$Credentials", "end", "(I)I"⟩ yX2_end]
def wsX7_endWhatHungOnTokens : List Cond := .code yX7_endWhatHungOnTokens cX7_endWhatHungOnTokens 2 (some .int) :: ((wsX7_endWhatHungOnTokens_r1 ++ (wsX7_endWhatHungOnTokens_r2 ++ wsX7_endWhatHungOnTokens_r3)) ++ wsX70 ++ wsX60 ++ wsX10)
def wsX7_endToken_r1 : List Cond := [Cond.fieldLink RX7 26 "SecretBroker" "tokenTable" "LSecretBroker$Tokens;", Cond.fieldLink RX7 40 "SecretBroker" "audit" "LSecretBroker$Audit;", Cond.fieldLink RX7 44 "SecretBroker" "now" "I", Cond.methodLink RX7 289 ⟨"SecretBroker$Tokens", "end", "(I)I"⟩, Cond.sameMethod "SecretBroker$Tokens" "SecretBroker$Leased" "end" "(I)I", Cond.selects RX6 ⟨"SecretBroker$Tokens", "end", "(I)I"⟩ yX2_end, Cond.instanceMethod yX2_end, Cond.initialized RX2, Cond.code yX2_end cX2_end 2 (some .int), Cond.fieldLink RX2 21 "SecretBroker$Leased" "on" "[Z", Cond.fieldLink RX2 29 "SecretBroker$Leased" "living" "I", Cond.methodLink RX2 45 ⟨"SecretBroker$Leased", "isOn", "(I)Z"⟩, Cond.sameMethod "SecretBroker$Leased" "SecretBroker$Leased" "isOn" "(I)Z", Cond.selects RX1 ⟨"SecretBroker$Leased", "isOn", "(I)Z"⟩ yX2_isOn, Cond.instanceMethod yX2_isOn, Cond.code yX2_isOn cX2_isOn 2 (some .boolean), Cond.methodLink RX2 32 ⟨"SecretBroker$Leased", "has", "(I)Z"⟩, Cond.sameMethod "SecretBroker$Leased" "SecretBroker$Leased" "has" "(I)Z", Cond.selects RX1 ⟨"SecretBroker$Leased", "has", "(I)Z"⟩ yX2_has, Cond.instanceMethod yX2_has, Cond.code yX2_has cX2_has 2 (some .boolean), Cond.fieldLink RX2 25 "SecretBroker$Leased" "made" "I", Cond.selects RX6 ⟨"SecretBroker$Leased", "has", "(I)Z"⟩ yX2_has, Cond.selects RX6 ⟨"SecretBroker$Leased", "isOn", "(I)Z"⟩ yX2_isOn]
def wsX7_endToken_r2 : List Cond := [Cond.methodLink RX7 208 yX7_endWhatHungOnTokens, Cond.instanceMethod yX7_endWhatHungOnTokens, Cond.selects RX7 yX7_endWhatHungOnTokens yX7_endWhatHungOnTokens, Cond.initialized RX7, Cond.code yX7_endWhatHungOnTokens cX7_endWhatHungOnTokens 2 (some .int), Cond.fieldLink RX7 33 "SecretBroker" "credentialTable" "LSecretBroker$Credentials;", Cond.methodLink RX7 292 yX6_endBelowEnded, Cond.instanceMethod yX6_endBelowEnded, Cond.selects RX6 yX6_endBelowEnded yX6_endBelowEnded, Cond.initialized RX6, Cond.code yX6_endBelowEnded cX6_endBelowEnded 3 (some .int), Cond.fieldLink RX6 9 "SecretBroker$Tokens" "parents" "[I", Cond.methodLink RX6 36 ⟨"SecretBroker$Tokens", "made", "()I"⟩, Cond.sameMethod "SecretBroker$Tokens" "SecretBroker$Leased" "made" "()I", Cond.selects RX6 ⟨"SecretBroker$Tokens", "made", "()I"⟩ yX2_made, Cond.instanceMethod yX2_made, Cond.code yX2_made cX2_made 1 (some .int), Cond.methodLink RX6 33 ⟨"SecretBroker$Tokens", "isOn", "(I)Z"⟩, Cond.sameMethod "SecretBroker$Tokens" "SecretBroker$Leased" "isOn" "(I)Z", Cond.selects RX6 ⟨"SecretBroker$Tokens", "isOn", "(I)Z"⟩ yX2_isOn, Cond.methodLink RX6 40 ⟨"SecretBroker$Tokens", "end", "(I)I"⟩, Cond.methodLink RX7 295 yX1_endOfEnded, Cond.instanceMethod yX1_endOfEnded, Cond.selects RX1 yX1_endOfEnded yX1_endOfEnded]
def wsX7_endToken_r3 : List Cond := [Cond.initialized RX1, Cond.code yX1_endOfEnded cX1_endOfEnded 4 (some .int), Cond.fieldLink RX1 9 "SecretBroker$Credentials" "owners" "[I", Cond.methodLink RX1 22 ⟨"SecretBroker$Credentials", "made", "()I"⟩, Cond.sameMethod "SecretBroker$Credentials" "SecretBroker$Leased" "made" "()I", Cond.selects RX1 ⟨"SecretBroker$Credentials", "made", "()I"⟩ yX2_made, Cond.methodLink RX1 39 ⟨"SecretBroker$Tokens", "isOn", "(I)Z"⟩, Cond.methodLink RX1 35 ⟨"SecretBroker$Credentials", "end", "(I)I"⟩, Cond.sameMethod "SecretBroker$Credentials" "SecretBroker$Leased" "end" "(I)I", Cond.selects RX1 ⟨"SecretBroker$Credentials", "end", "(I)I"⟩ yX2_end, Cond.methodLink RX7 140 yX0_write, Cond.instanceMethod yX0_write, Cond.selects RX0 yX0_write yX0_write, Cond.initialized RX0, Cond.code yX0_write cX0_write 7 none, Cond.fieldLink RX0 25 "SecretBroker$Audit" "count" "I", Cond.constantLong RX0 29 (17), Cond.fieldLink RX0 21 "SecretBroker$Audit" "sums" "[J", Cond.fieldLink RX0 9 "SecretBroker$Audit" "kinds" "[I", Cond.fieldLink RX0 15 "SecretBroker$Audit" "subjects" "[I", Cond.fieldLink RX0 18 "SecretBroker$Audit" "details" "[I", Cond.constantLong RX0 31 (31), Cond.constantLong RX0 33 (7), Cond.constantLong RX0 35 (5)]
def wsX7_endToken_r4 : List Cond := [Cond.constantLong RX0 37 (3), Cond.constantLong RX0 39 (1000003)]
def wsX7_endToken : List Cond := .code yX7_endToken cX7_endToken 3 (some .int) :: ((wsX7_endToken_r1 ++ (wsX7_endToken_r2 ++ (wsX7_endToken_r3 ++ wsX7_endToken_r4))) ++ wsX70 ++ wsX10 ++ wsX60 ++ wsX00)
def wsX7_revoke_r1 : List Cond := [Cond.methodLink RX7 112 yX7_checkToken, Cond.instanceMethod yX7_checkToken, Cond.selects RX7 yX7_checkToken yX7_checkToken, Cond.initialized RX7, Cond.code yX7_checkToken cX7_checkToken 2 none, Cond.classLink RX7 243 "java/lang/IndexOutOfBoundsException", Cond.initialized "java/lang/IndexOutOfBoundsException", Cond.fieldLink RX7 26 "SecretBroker" "tokenTable" "LSecretBroker$Tokens;", Cond.methodLink RX7 248 ⟨"SecretBroker$Tokens", "has", "(I)Z"⟩, Cond.sameMethod "SecretBroker$Tokens" "SecretBroker$Leased" "has" "(I)Z", Cond.selects RX6 ⟨"SecretBroker$Tokens", "has", "(I)Z"⟩ yX2_has, Cond.instanceMethod yX2_has, Cond.initialized RX2, Cond.code yX2_has cX2_has 2 (some .boolean), Cond.fieldLink RX2 25 "SecretBroker$Leased" "made" "I", Cond.methodLink RX7 143 yX7_checkEndingToken, Cond.instanceMethod yX7_checkEndingToken, Cond.selects RX7 yX7_checkEndingToken yX7_checkEndingToken, Cond.code yX7_checkEndingToken cX7_checkEndingToken 2 none, Cond.classLink RX7 52 "java/lang/IllegalStateException", Cond.initialized "java/lang/IllegalStateException", Cond.methodLink RX7 121 yX7_checkAliveToken, Cond.instanceMethod yX7_checkAliveToken, Cond.selects RX7 yX7_checkAliveToken yX7_checkAliveToken]
def wsX7_revoke_r2 : List Cond := [Cond.code yX7_checkAliveToken cX7_checkAliveToken 2 none, Cond.methodLink RX7 158 ⟨"SecretBroker$Tokens", "isOn", "(I)Z"⟩, Cond.sameMethod "SecretBroker$Tokens" "SecretBroker$Leased" "isOn" "(I)Z", Cond.selects RX6 ⟨"SecretBroker$Tokens", "isOn", "(I)Z"⟩ yX2_isOn, Cond.instanceMethod yX2_isOn, Cond.code yX2_isOn cX2_isOn 2 (some .boolean), Cond.fieldLink RX2 21 "SecretBroker$Leased" "on" "[Z", Cond.methodLink RX2 32 ⟨"SecretBroker$Leased", "has", "(I)Z"⟩, Cond.sameMethod "SecretBroker$Leased" "SecretBroker$Leased" "has" "(I)Z", Cond.selects RX1 ⟨"SecretBroker$Leased", "has", "(I)Z"⟩ yX2_has, Cond.selects RX6 ⟨"SecretBroker$Leased", "has", "(I)Z"⟩ yX2_has, Cond.methodLink RX7 152 yX7_endToken, Cond.instanceMethod yX7_endToken, Cond.selects RX7 yX7_endToken yX7_endToken, Cond.code yX7_endToken cX7_endToken 3 (some .int), Cond.fieldLink RX7 40 "SecretBroker" "audit" "LSecretBroker$Audit;", Cond.fieldLink RX7 44 "SecretBroker" "now" "I", Cond.methodLink RX7 289 ⟨"SecretBroker$Tokens", "end", "(I)I"⟩, Cond.sameMethod "SecretBroker$Tokens" "SecretBroker$Leased" "end" "(I)I", Cond.selects RX6 ⟨"SecretBroker$Tokens", "end", "(I)I"⟩ yX2_end, Cond.instanceMethod yX2_end, Cond.code yX2_end cX2_end 2 (some .int), Cond.fieldLink RX2 29 "SecretBroker$Leased" "living" "I", Cond.methodLink RX2 45 ⟨"SecretBroker$Leased", "isOn", "(I)Z"⟩]
def wsX7_revoke_r3 : List Cond := [Cond.sameMethod "SecretBroker$Leased" "SecretBroker$Leased" "isOn" "(I)Z", Cond.selects RX1 ⟨"SecretBroker$Leased", "isOn", "(I)Z"⟩ yX2_isOn, Cond.selects RX6 ⟨"SecretBroker$Leased", "isOn", "(I)Z"⟩ yX2_isOn, Cond.methodLink RX7 208 yX7_endWhatHungOnTokens, Cond.instanceMethod yX7_endWhatHungOnTokens, Cond.selects RX7 yX7_endWhatHungOnTokens yX7_endWhatHungOnTokens, Cond.code yX7_endWhatHungOnTokens cX7_endWhatHungOnTokens 2 (some .int), Cond.fieldLink RX7 33 "SecretBroker" "credentialTable" "LSecretBroker$Credentials;", Cond.methodLink RX7 292 yX6_endBelowEnded, Cond.instanceMethod yX6_endBelowEnded, Cond.selects RX6 yX6_endBelowEnded yX6_endBelowEnded, Cond.initialized RX6, Cond.code yX6_endBelowEnded cX6_endBelowEnded 3 (some .int), Cond.fieldLink RX6 9 "SecretBroker$Tokens" "parents" "[I", Cond.methodLink RX6 36 ⟨"SecretBroker$Tokens", "made", "()I"⟩, Cond.sameMethod "SecretBroker$Tokens" "SecretBroker$Leased" "made" "()I", Cond.selects RX6 ⟨"SecretBroker$Tokens", "made", "()I"⟩ yX2_made, Cond.instanceMethod yX2_made, Cond.code yX2_made cX2_made 1 (some .int), Cond.methodLink RX6 33 ⟨"SecretBroker$Tokens", "isOn", "(I)Z"⟩, Cond.methodLink RX6 40 ⟨"SecretBroker$Tokens", "end", "(I)I"⟩, Cond.methodLink RX7 295 yX1_endOfEnded, Cond.instanceMethod yX1_endOfEnded, Cond.selects RX1 yX1_endOfEnded yX1_endOfEnded]
def wsX7_revoke_r4 : List Cond := [Cond.initialized RX1, Cond.code yX1_endOfEnded cX1_endOfEnded 4 (some .int), Cond.fieldLink RX1 9 "SecretBroker$Credentials" "owners" "[I", Cond.methodLink RX1 22 ⟨"SecretBroker$Credentials", "made", "()I"⟩, Cond.sameMethod "SecretBroker$Credentials" "SecretBroker$Leased" "made" "()I", Cond.selects RX1 ⟨"SecretBroker$Credentials", "made", "()I"⟩ yX2_made, Cond.methodLink RX1 39 ⟨"SecretBroker$Tokens", "isOn", "(I)Z"⟩, Cond.methodLink RX1 35 ⟨"SecretBroker$Credentials", "end", "(I)I"⟩, Cond.sameMethod "SecretBroker$Credentials" "SecretBroker$Leased" "end" "(I)I", Cond.selects RX1 ⟨"SecretBroker$Credentials", "end", "(I)I"⟩ yX2_end, Cond.methodLink RX7 140 yX0_write, Cond.instanceMethod yX0_write, Cond.selects RX0 yX0_write yX0_write, Cond.initialized RX0, Cond.code yX0_write cX0_write 7 none, Cond.fieldLink RX0 25 "SecretBroker$Audit" "count" "I", Cond.constantLong RX0 29 (17), Cond.fieldLink RX0 21 "SecretBroker$Audit" "sums" "[J", Cond.fieldLink RX0 9 "SecretBroker$Audit" "kinds" "[I", Cond.fieldLink RX0 15 "SecretBroker$Audit" "subjects" "[I", Cond.fieldLink RX0 18 "SecretBroker$Audit" "details" "[I", Cond.constantLong RX0 31 (31), Cond.constantLong RX0 33 (7), Cond.constantLong RX0 35 (5)]
def wsX7_revoke_r5 : List Cond := [Cond.constantLong RX0 37 (3), Cond.constantLong RX0 39 (1000003)]
def wsX7_revoke : List Cond := .code yX7_revoke cX7_revoke 2 (some .int) :: ((wsX7_revoke_r1 ++ (wsX7_revoke_r2 ++ (wsX7_revoke_r3 ++ (wsX7_revoke_r4 ++ wsX7_revoke_r5)))) ++ wsX70 ++ wsX10 ++ wsX60 ++ wsX00 ++ (vx_atS RX7 247 "java/lang/IndexOutOfBoundsException" ["java/lang/RuntimeException", "java/lang/Exception"]).filter goodWord ++ (vx_atS RX7 56 "java/lang/IllegalStateException" ["java/lang/RuntimeException", "java/lang/Exception"]).filter goodWord)
def wsX7_revokeAlone_r1 : List Cond := [Cond.fieldLink RX7 26 "SecretBroker" "tokenTable" "LSecretBroker$Tokens;", Cond.methodLink RX7 112 yX7_checkToken, Cond.instanceMethod yX7_checkToken, Cond.selects RX7 yX7_checkToken yX7_checkToken, Cond.initialized RX7, Cond.code yX7_checkToken cX7_checkToken 2 none, Cond.classLink RX7 243 "java/lang/IndexOutOfBoundsException", Cond.initialized "java/lang/IndexOutOfBoundsException", Cond.methodLink RX7 248 ⟨"SecretBroker$Tokens", "has", "(I)Z"⟩, Cond.sameMethod "SecretBroker$Tokens" "SecretBroker$Leased" "has" "(I)Z", Cond.selects RX6 ⟨"SecretBroker$Tokens", "has", "(I)Z"⟩ yX2_has, Cond.instanceMethod yX2_has, Cond.initialized RX2, Cond.code yX2_has cX2_has 2 (some .boolean), Cond.fieldLink RX2 25 "SecretBroker$Leased" "made" "I", Cond.methodLink RX7 143 yX7_checkEndingToken, Cond.instanceMethod yX7_checkEndingToken, Cond.selects RX7 yX7_checkEndingToken yX7_checkEndingToken, Cond.code yX7_checkEndingToken cX7_checkEndingToken 2 none, Cond.classLink RX7 52 "java/lang/IllegalStateException", Cond.initialized "java/lang/IllegalStateException", Cond.methodLink RX7 121 yX7_checkAliveToken, Cond.instanceMethod yX7_checkAliveToken, Cond.selects RX7 yX7_checkAliveToken yX7_checkAliveToken]
def wsX7_revokeAlone_r2 : List Cond := [Cond.code yX7_checkAliveToken cX7_checkAliveToken 2 none, Cond.methodLink RX7 158 ⟨"SecretBroker$Tokens", "isOn", "(I)Z"⟩, Cond.sameMethod "SecretBroker$Tokens" "SecretBroker$Leased" "isOn" "(I)Z", Cond.selects RX6 ⟨"SecretBroker$Tokens", "isOn", "(I)Z"⟩ yX2_isOn, Cond.instanceMethod yX2_isOn, Cond.code yX2_isOn cX2_isOn 2 (some .boolean), Cond.fieldLink RX2 21 "SecretBroker$Leased" "on" "[Z", Cond.methodLink RX2 32 ⟨"SecretBroker$Leased", "has", "(I)Z"⟩, Cond.sameMethod "SecretBroker$Leased" "SecretBroker$Leased" "has" "(I)Z", Cond.selects RX1 ⟨"SecretBroker$Leased", "has", "(I)Z"⟩ yX2_has, Cond.selects RX6 ⟨"SecretBroker$Leased", "has", "(I)Z"⟩ yX2_has, Cond.methodLink RX7 155 yX6_freeChildren, Cond.instanceMethod yX6_freeChildren, Cond.selects RX6 yX6_freeChildren yX6_freeChildren, Cond.initialized RX6, Cond.code yX6_freeChildren cX6_freeChildren 3 none, Cond.fieldLink RX6 9 "SecretBroker$Tokens" "parents" "[I", Cond.methodLink RX6 36 ⟨"SecretBroker$Tokens", "made", "()I"⟩, Cond.sameMethod "SecretBroker$Tokens" "SecretBroker$Leased" "made" "()I", Cond.selects RX6 ⟨"SecretBroker$Tokens", "made", "()I"⟩ yX2_made, Cond.instanceMethod yX2_made, Cond.code yX2_made cX2_made 1 (some .int), Cond.methodLink RX6 33 ⟨"SecretBroker$Tokens", "isOn", "(I)Z"⟩, Cond.methodLink RX7 152 yX7_endToken]
def wsX7_revokeAlone_r3 : List Cond := [Cond.instanceMethod yX7_endToken, Cond.selects RX7 yX7_endToken yX7_endToken, Cond.code yX7_endToken cX7_endToken 3 (some .int), Cond.fieldLink RX7 40 "SecretBroker" "audit" "LSecretBroker$Audit;", Cond.fieldLink RX7 44 "SecretBroker" "now" "I", Cond.methodLink RX7 289 ⟨"SecretBroker$Tokens", "end", "(I)I"⟩, Cond.sameMethod "SecretBroker$Tokens" "SecretBroker$Leased" "end" "(I)I", Cond.selects RX6 ⟨"SecretBroker$Tokens", "end", "(I)I"⟩ yX2_end, Cond.instanceMethod yX2_end, Cond.code yX2_end cX2_end 2 (some .int), Cond.fieldLink RX2 29 "SecretBroker$Leased" "living" "I", Cond.methodLink RX2 45 ⟨"SecretBroker$Leased", "isOn", "(I)Z"⟩, Cond.sameMethod "SecretBroker$Leased" "SecretBroker$Leased" "isOn" "(I)Z", Cond.selects RX1 ⟨"SecretBroker$Leased", "isOn", "(I)Z"⟩ yX2_isOn, Cond.selects RX6 ⟨"SecretBroker$Leased", "isOn", "(I)Z"⟩ yX2_isOn, Cond.methodLink RX7 208 yX7_endWhatHungOnTokens, Cond.instanceMethod yX7_endWhatHungOnTokens, Cond.selects RX7 yX7_endWhatHungOnTokens yX7_endWhatHungOnTokens, Cond.code yX7_endWhatHungOnTokens cX7_endWhatHungOnTokens 2 (some .int), Cond.fieldLink RX7 33 "SecretBroker" "credentialTable" "LSecretBroker$Credentials;", Cond.methodLink RX7 292 yX6_endBelowEnded, Cond.instanceMethod yX6_endBelowEnded, Cond.selects RX6 yX6_endBelowEnded yX6_endBelowEnded, Cond.code yX6_endBelowEnded cX6_endBelowEnded 3 (some .int)]
def wsX7_revokeAlone_r4 : List Cond := [Cond.methodLink RX6 40 ⟨"SecretBroker$Tokens", "end", "(I)I"⟩, Cond.methodLink RX7 295 yX1_endOfEnded, Cond.instanceMethod yX1_endOfEnded, Cond.selects RX1 yX1_endOfEnded yX1_endOfEnded, Cond.initialized RX1, Cond.code yX1_endOfEnded cX1_endOfEnded 4 (some .int), Cond.fieldLink RX1 9 "SecretBroker$Credentials" "owners" "[I", Cond.methodLink RX1 22 ⟨"SecretBroker$Credentials", "made", "()I"⟩, Cond.sameMethod "SecretBroker$Credentials" "SecretBroker$Leased" "made" "()I", Cond.selects RX1 ⟨"SecretBroker$Credentials", "made", "()I"⟩ yX2_made, Cond.methodLink RX1 39 ⟨"SecretBroker$Tokens", "isOn", "(I)Z"⟩, Cond.methodLink RX1 35 ⟨"SecretBroker$Credentials", "end", "(I)I"⟩, Cond.sameMethod "SecretBroker$Credentials" "SecretBroker$Leased" "end" "(I)I", Cond.selects RX1 ⟨"SecretBroker$Credentials", "end", "(I)I"⟩ yX2_end, Cond.methodLink RX7 140 yX0_write, Cond.instanceMethod yX0_write, Cond.selects RX0 yX0_write yX0_write, Cond.initialized RX0, Cond.code yX0_write cX0_write 7 none, Cond.fieldLink RX0 25 "SecretBroker$Audit" "count" "I", Cond.constantLong RX0 29 (17), Cond.fieldLink RX0 21 "SecretBroker$Audit" "sums" "[J", Cond.fieldLink RX0 9 "SecretBroker$Audit" "kinds" "[I", Cond.fieldLink RX0 15 "SecretBroker$Audit" "subjects" "[I"]
def wsX7_revokeAlone_r5 : List Cond := [Cond.fieldLink RX0 18 "SecretBroker$Audit" "details" "[I", Cond.constantLong RX0 31 (31), Cond.constantLong RX0 33 (7), Cond.constantLong RX0 35 (5), Cond.constantLong RX0 37 (3), Cond.constantLong RX0 39 (1000003)]
def wsX7_revokeAlone : List Cond := .code yX7_revokeAlone cX7_revokeAlone 2 (some .int) :: ((wsX7_revokeAlone_r1 ++ (wsX7_revokeAlone_r2 ++ (wsX7_revokeAlone_r3 ++ (wsX7_revokeAlone_r4 ++ wsX7_revokeAlone_r5)))) ++ wsX70 ++ wsX10 ++ wsX60 ++ wsX00 ++ (vx_atS RX7 247 "java/lang/IndexOutOfBoundsException" ["java/lang/RuntimeException", "java/lang/Exception"]).filter goodWord ++ (vx_atS RX7 56 "java/lang/IllegalStateException" ["java/lang/RuntimeException", "java/lang/Exception"]).filter goodWord)
def wsX7_isAlive_r1 : List Cond := [Cond.fieldLink RX7 26 "SecretBroker" "tokenTable" "LSecretBroker$Tokens;", Cond.methodLink RX7 112 yX7_checkToken, Cond.instanceMethod yX7_checkToken, Cond.selects RX7 yX7_checkToken yX7_checkToken, Cond.initialized RX7, Cond.code yX7_checkToken cX7_checkToken 2 none, Cond.classLink RX7 243 "java/lang/IndexOutOfBoundsException", Cond.initialized "java/lang/IndexOutOfBoundsException", Cond.methodLink RX7 248 ⟨"SecretBroker$Tokens", "has", "(I)Z"⟩, Cond.sameMethod "SecretBroker$Tokens" "SecretBroker$Leased" "has" "(I)Z", Cond.selects RX6 ⟨"SecretBroker$Tokens", "has", "(I)Z"⟩ yX2_has, Cond.instanceMethod yX2_has, Cond.initialized RX2, Cond.code yX2_has cX2_has 2 (some .boolean), Cond.fieldLink RX2 25 "SecretBroker$Leased" "made" "I", Cond.methodLink RX7 158 ⟨"SecretBroker$Tokens", "isOn", "(I)Z"⟩, Cond.sameMethod "SecretBroker$Tokens" "SecretBroker$Leased" "isOn" "(I)Z", Cond.selects RX6 ⟨"SecretBroker$Tokens", "isOn", "(I)Z"⟩ yX2_isOn, Cond.instanceMethod yX2_isOn, Cond.code yX2_isOn cX2_isOn 2 (some .boolean), Cond.fieldLink RX2 21 "SecretBroker$Leased" "on" "[Z", Cond.methodLink RX2 32 ⟨"SecretBroker$Leased", "has", "(I)Z"⟩, Cond.sameMethod "SecretBroker$Leased" "SecretBroker$Leased" "has" "(I)Z", Cond.selects RX1 ⟨"SecretBroker$Leased", "has", "(I)Z"⟩ yX2_has]
def wsX7_isAlive_r2 : List Cond := [Cond.selects RX6 ⟨"SecretBroker$Leased", "has", "(I)Z"⟩ yX2_has]
def wsX7_isAlive : List Cond := .code yX7_isAlive cX7_isAlive 2 (some .boolean) :: ((wsX7_isAlive_r1 ++ wsX7_isAlive_r2) ++ wsX70 ++ wsX10 ++ wsX60 ++ (vx_atS RX7 247 "java/lang/IndexOutOfBoundsException" ["java/lang/RuntimeException", "java/lang/Exception"]).filter goodWord)
def wsX7_parentOf : List Cond := .code yX7_parentOf cX7_parentOf 2 (some .int) :: ([.fieldLink RX7 26 "SecretBroker" "tokenTable" "LSecretBroker$Tokens;", .methodLink RX7 112 yX7_checkToken, .instanceMethod yX7_checkToken, .selects RX7 yX7_checkToken yX7_checkToken, .initialized RX7, .code yX7_checkToken cX7_checkToken 2 none, .classLink RX7 243 "java/lang/IndexOutOfBoundsException", .initialized "java/lang/IndexOutOfBoundsException", .methodLink RX7 248 ⟨"SecretBroker$Tokens", "has", "(I)Z"⟩, .sameMethod "SecretBroker$Tokens" "SecretBroker$Leased" "has" "(I)Z", .selects RX6 ⟨"SecretBroker$Tokens", "has", "(I)Z"⟩ yX2_has, .instanceMethod yX2_has, .initialized RX2, .code yX2_has cX2_has 2 (some .boolean), .fieldLink RX2 25 "SecretBroker$Leased" "made" "I", .methodLink RX7 161 yX6_parentAt, .instanceMethod yX6_parentAt, .selects RX6 yX6_parentAt yX6_parentAt, .initialized RX6, .code yX6_parentAt cX6_parentAt 2 (some .int), .fieldLink RX6 9 "SecretBroker$Tokens" "parents" "[I", .methodLink RX6 29 ⟨"SecretBroker$Tokens", "has", "(I)Z"⟩] ++ wsX70 ++ wsX10 ++ wsX60 ++ (vx_atS RX7 247 "java/lang/IndexOutOfBoundsException" ["java/lang/RuntimeException", "java/lang/Exception"]).filter goodWord)
def wsX7_endOf_r1 : List Cond := [Cond.fieldLink RX7 26 "SecretBroker" "tokenTable" "LSecretBroker$Tokens;", Cond.methodLink RX7 112 yX7_checkToken, Cond.instanceMethod yX7_checkToken, Cond.selects RX7 yX7_checkToken yX7_checkToken, Cond.initialized RX7, Cond.code yX7_checkToken cX7_checkToken 2 none, Cond.classLink RX7 243 "java/lang/IndexOutOfBoundsException", Cond.initialized "java/lang/IndexOutOfBoundsException", Cond.methodLink RX7 248 ⟨"SecretBroker$Tokens", "has", "(I)Z"⟩, Cond.sameMethod "SecretBroker$Tokens" "SecretBroker$Leased" "has" "(I)Z", Cond.selects RX6 ⟨"SecretBroker$Tokens", "has", "(I)Z"⟩ yX2_has, Cond.instanceMethod yX2_has, Cond.initialized RX2, Cond.code yX2_has cX2_has 2 (some .boolean), Cond.fieldLink RX2 25 "SecretBroker$Leased" "made" "I", Cond.methodLink RX7 149 ⟨"SecretBroker$Tokens", "endAt", "(I)I"⟩, Cond.sameMethod "SecretBroker$Tokens" "SecretBroker$Leased" "endAt" "(I)I", Cond.selects RX6 ⟨"SecretBroker$Tokens", "endAt", "(I)I"⟩ yX2_endAt, Cond.instanceMethod yX2_endAt, Cond.code yX2_endAt cX2_endAt 2 (some .int), Cond.fieldLink RX2 15 "SecretBroker$Leased" "ends" "[I", Cond.methodLink RX2 32 ⟨"SecretBroker$Leased", "has", "(I)Z"⟩, Cond.sameMethod "SecretBroker$Leased" "SecretBroker$Leased" "has" "(I)Z", Cond.selects RX1 ⟨"SecretBroker$Leased", "has", "(I)Z"⟩ yX2_has]
def wsX7_endOf_r2 : List Cond := [Cond.selects RX6 ⟨"SecretBroker$Leased", "has", "(I)Z"⟩ yX2_has]
def wsX7_endOf : List Cond := .code yX7_endOf cX7_endOf 2 (some .int) :: ((wsX7_endOf_r1 ++ wsX7_endOf_r2) ++ wsX70 ++ wsX10 ++ wsX60 ++ (vx_atS RX7 247 "java/lang/IndexOutOfBoundsException" ["java/lang/RuntimeException", "java/lang/Exception"]).filter goodWord)
def wsX7_usesLeft : List Cond := .code yX7_usesLeft cX7_usesLeft 2 (some .int) :: ([.fieldLink RX7 26 "SecretBroker" "tokenTable" "LSecretBroker$Tokens;", .methodLink RX7 112 yX7_checkToken, .instanceMethod yX7_checkToken, .selects RX7 yX7_checkToken yX7_checkToken, .initialized RX7, .code yX7_checkToken cX7_checkToken 2 none, .classLink RX7 243 "java/lang/IndexOutOfBoundsException", .initialized "java/lang/IndexOutOfBoundsException", .methodLink RX7 248 ⟨"SecretBroker$Tokens", "has", "(I)Z"⟩, .sameMethod "SecretBroker$Tokens" "SecretBroker$Leased" "has" "(I)Z", .selects RX6 ⟨"SecretBroker$Tokens", "has", "(I)Z"⟩ yX2_has, .instanceMethod yX2_has, .initialized RX2, .code yX2_has cX2_has 2 (some .boolean), .fieldLink RX2 25 "SecretBroker$Leased" "made" "I", .methodLink RX7 164 yX6_usesAt, .instanceMethod yX6_usesAt, .selects RX6 yX6_usesAt yX6_usesAt, .initialized RX6, .code yX6_usesAt cX6_usesAt 2 (some .int), .fieldLink RX6 18 "SecretBroker$Tokens" "uses" "[I", .methodLink RX6 29 ⟨"SecretBroker$Tokens", "has", "(I)Z"⟩] ++ wsX70 ++ wsX10 ++ wsX60 ++ (vx_atS RX7 247 "java/lang/IndexOutOfBoundsException" ["java/lang/RuntimeException", "java/lang/Exception"]).filter goodWord)
def wsX7_below_r1 : List Cond := [Cond.fieldLink RX7 26 "SecretBroker" "tokenTable" "LSecretBroker$Tokens;", Cond.methodLink RX7 112 yX7_checkToken, Cond.instanceMethod yX7_checkToken, Cond.selects RX7 yX7_checkToken yX7_checkToken, Cond.initialized RX7, Cond.code yX7_checkToken cX7_checkToken 2 none, Cond.classLink RX7 243 "java/lang/IndexOutOfBoundsException", Cond.initialized "java/lang/IndexOutOfBoundsException", Cond.methodLink RX7 248 ⟨"SecretBroker$Tokens", "has", "(I)Z"⟩, Cond.sameMethod "SecretBroker$Tokens" "SecretBroker$Leased" "has" "(I)Z", Cond.selects RX6 ⟨"SecretBroker$Tokens", "has", "(I)Z"⟩ yX2_has, Cond.instanceMethod yX2_has, Cond.initialized RX2, Cond.code yX2_has cX2_has 2 (some .boolean), Cond.fieldLink RX2 25 "SecretBroker$Leased" "made" "I", Cond.methodLink RX7 167 yX6_livingBelow, Cond.instanceMethod yX6_livingBelow, Cond.selects RX6 yX6_livingBelow yX6_livingBelow, Cond.initialized RX6, Cond.code yX6_livingBelow cX6_livingBelow 4 (some .int), Cond.methodLink RX6 36 ⟨"SecretBroker$Tokens", "made", "()I"⟩, Cond.sameMethod "SecretBroker$Tokens" "SecretBroker$Leased" "made" "()I", Cond.selects RX6 ⟨"SecretBroker$Tokens", "made", "()I"⟩ yX2_made, Cond.instanceMethod yX2_made]
def wsX7_below_r2 : List Cond := [Cond.code yX2_made cX2_made 1 (some .int), Cond.methodLink RX6 33 ⟨"SecretBroker$Tokens", "isOn", "(I)Z"⟩, Cond.sameMethod "SecretBroker$Tokens" "SecretBroker$Leased" "isOn" "(I)Z", Cond.selects RX6 ⟨"SecretBroker$Tokens", "isOn", "(I)Z"⟩ yX2_isOn, Cond.instanceMethod yX2_isOn, Cond.code yX2_isOn cX2_isOn 2 (some .boolean), Cond.fieldLink RX2 21 "SecretBroker$Leased" "on" "[Z", Cond.methodLink RX2 32 ⟨"SecretBroker$Leased", "has", "(I)Z"⟩, Cond.sameMethod "SecretBroker$Leased" "SecretBroker$Leased" "has" "(I)Z", Cond.selects RX1 ⟨"SecretBroker$Leased", "has", "(I)Z"⟩ yX2_has, Cond.selects RX6 ⟨"SecretBroker$Leased", "has", "(I)Z"⟩ yX2_has, Cond.methodLink RX6 44 yX6_hangsBelow, Cond.instanceMethod yX6_hangsBelow, Cond.selects RX6 yX6_hangsBelow yX6_hangsBelow, Cond.code yX6_hangsBelow cX6_hangsBelow 5 (some .boolean), Cond.methodLink RX6 48 yX6_parentAt, Cond.instanceMethod yX6_parentAt, Cond.selects RX6 yX6_parentAt yX6_parentAt, Cond.code yX6_parentAt cX6_parentAt 2 (some .int), Cond.fieldLink RX6 9 "SecretBroker$Tokens" "parents" "[I", Cond.methodLink RX6 29 ⟨"SecretBroker$Tokens", "has", "(I)Z"⟩]
def wsX7_below : List Cond := .code yX7_below cX7_below 2 (some .int) :: ((wsX7_below_r1 ++ wsX7_below_r2) ++ wsX70 ++ wsX10 ++ wsX60 ++ (vx_atS RX7 247 "java/lang/IndexOutOfBoundsException" ["java/lang/RuntimeException", "java/lang/Exception"]).filter goodWord)
def wsX7_tokens : List Cond := .code yX7_tokens cX7_tokens 1 (some .int) :: ([.fieldLink RX7 26 "SecretBroker" "tokenTable" "LSecretBroker$Tokens;", .methodLink RX7 124 ⟨"SecretBroker$Tokens", "living", "()I"⟩, .sameMethod "SecretBroker$Tokens" "SecretBroker$Leased" "living" "()I", .selects RX6 ⟨"SecretBroker$Tokens", "living", "()I"⟩ yX2_living, .instanceMethod yX2_living, .initialized RX2, .code yX2_living cX2_living 1 (some .int), .fieldLink RX2 29 "SecretBroker$Leased" "living" "I"] ++ wsX70 ++ wsX10 ++ wsX60)
def wsX7_capabilitiesAt_r1 : List Cond := [Cond.fieldLink RX7 10 "SecretBroker" "policyTable" "LSecretBroker$Policies;", Cond.fieldLink RX7 26 "SecretBroker" "tokenTable" "LSecretBroker$Tokens;", Cond.methodLink RX7 271 yX6_policiesAt, Cond.instanceMethod yX6_policiesAt, Cond.selects RX6 yX6_policiesAt yX6_policiesAt, Cond.initialized RX6, Cond.code yX6_policiesAt cX6_policiesAt 2 (some .int), Cond.fieldLink RX6 15 "SecretBroker$Tokens" "policySets" "[I", Cond.methodLink RX6 29 ⟨"SecretBroker$Tokens", "has", "(I)Z"⟩, Cond.sameMethod "SecretBroker$Tokens" "SecretBroker$Leased" "has" "(I)Z", Cond.selects RX6 ⟨"SecretBroker$Tokens", "has", "(I)Z"⟩ yX2_has, Cond.instanceMethod yX2_has, Cond.initialized RX2, Cond.code yX2_has cX2_has 2 (some .boolean), Cond.fieldLink RX2 25 "SecretBroker$Leased" "made" "I", Cond.methodLink RX7 274 yX5_together, Cond.instanceMethod yX5_together, Cond.selects RX5 yX5_together yX5_together, Cond.initialized RX5, Cond.code yX5_together cX5_together 5 (some .int), Cond.fieldLink RX5 25 "SecretBroker$Policies" "count" "I", Cond.methodLink RX5 44 yX5_decided, Cond.instanceMethod yX5_decided, Cond.selects RX5 yX5_decided yX5_decided]
def wsX7_capabilitiesAt_r2 : List Cond := [Cond.code yX5_decided cX5_decided 7 (some .int), Cond.fieldLink RX5 15 "SecretBroker$Policies" "patterns" "[I", Cond.fieldLink RX5 18 "SecretBroker$Policies" "opens" "[Z", Cond.fieldLink RX5 22 "SecretBroker$Policies" "sets" "[I", Cond.methodLink RX5 33 yX5_rulesOf, Cond.instanceMethod yX5_rulesOf, Cond.selects RX5 yX5_rulesOf yX5_rulesOf, Cond.code yX5_rulesOf cX5_rulesOf 2 (some .int), Cond.fieldLink RX5 9 "SecretBroker$Policies" "ruleCounts" "[I", Cond.methodLink RX5 29 yX5_has, Cond.instanceMethod yX5_has, Cond.selects RX5 yX5_has yX5_has, Cond.code yX5_has cX5_has 2 (some .boolean), Cond.methodLink RX5 48 yX4_fits, Cond.static yX4_fits, Cond.initialized RX4, Cond.code yX4_fits cX4_fits 8 (some .boolean), Cond.methodLink RX4 16 yX4_length, Cond.static yX4_length, Cond.code yX4_length cX4_length 4 (some .int), Cond.methodLink RX4 20 yX4_withoutLast, Cond.static yX4_withoutLast, Cond.code yX4_withoutLast cX4_withoutLast 4 (some .int), Cond.methodLink RX5 54 yX5_goesAhead]
def wsX7_capabilitiesAt_r3 : List Cond := [Cond.instanceMethod yX5_goesAhead, Cond.selects RX5 yX5_goesAhead yX5_goesAhead, Cond.code yX5_goesAhead cX5_goesAhead 4 (some .boolean), Cond.methodLink RX5 58 yX4_length]
def wsX7_capabilitiesAt : List Cond := .code yX7_capabilitiesAt cX7_capabilitiesAt 4 (some .int) :: ((wsX7_capabilitiesAt_r1 ++ (wsX7_capabilitiesAt_r2 ++ wsX7_capabilitiesAt_r3)) ++ wsX70 ++ wsX60 ++ wsX10 ++ wsX50)
def wsX7_capabilities_r1 : List Cond := [Cond.methodLink RX7 112 yX7_checkToken, Cond.instanceMethod yX7_checkToken, Cond.selects RX7 yX7_checkToken yX7_checkToken, Cond.initialized RX7, Cond.code yX7_checkToken cX7_checkToken 2 none, Cond.classLink RX7 243 "java/lang/IndexOutOfBoundsException", Cond.initialized "java/lang/IndexOutOfBoundsException", Cond.fieldLink RX7 26 "SecretBroker" "tokenTable" "LSecretBroker$Tokens;", Cond.methodLink RX7 248 ⟨"SecretBroker$Tokens", "has", "(I)Z"⟩, Cond.sameMethod "SecretBroker$Tokens" "SecretBroker$Leased" "has" "(I)Z", Cond.selects RX6 ⟨"SecretBroker$Tokens", "has", "(I)Z"⟩ yX2_has, Cond.instanceMethod yX2_has, Cond.initialized RX2, Cond.code yX2_has cX2_has 2 (some .boolean), Cond.fieldLink RX2 25 "SecretBroker$Leased" "made" "I", Cond.methodLink RX7 98 yX7_checkPath, Cond.static yX7_checkPath, Cond.code yX7_checkPath cX7_checkPath 1 none, Cond.classLink RX7 72 "java/lang/IllegalArgumentException", Cond.initialized "java/lang/IllegalArgumentException", Cond.methodLink RX7 261 yX4_isPath, Cond.static yX4_isPath, Cond.initialized RX4, Cond.code yX4_isPath cX4_isPath 1 (some .boolean)]
def wsX7_capabilities_r2 : List Cond := [Cond.methodLink RX4 9 yX4_hasDigits, Cond.static yX4_hasDigits, Cond.code yX4_hasDigits cX4_hasDigits 5 (some .boolean), Cond.constant RX4 15 (999999), Cond.methodLink RX7 170 yX7_capabilitiesAt, Cond.instanceMethod yX7_capabilitiesAt, Cond.selects RX7 yX7_capabilitiesAt yX7_capabilitiesAt, Cond.code yX7_capabilitiesAt cX7_capabilitiesAt 4 (some .int), Cond.fieldLink RX7 10 "SecretBroker" "policyTable" "LSecretBroker$Policies;", Cond.methodLink RX7 271 yX6_policiesAt, Cond.instanceMethod yX6_policiesAt, Cond.selects RX6 yX6_policiesAt yX6_policiesAt, Cond.initialized RX6, Cond.code yX6_policiesAt cX6_policiesAt 2 (some .int), Cond.fieldLink RX6 15 "SecretBroker$Tokens" "policySets" "[I", Cond.methodLink RX6 29 ⟨"SecretBroker$Tokens", "has", "(I)Z"⟩, Cond.methodLink RX7 274 yX5_together, Cond.instanceMethod yX5_together, Cond.selects RX5 yX5_together yX5_together, Cond.initialized RX5, Cond.code yX5_together cX5_together 5 (some .int), Cond.fieldLink RX5 25 "SecretBroker$Policies" "count" "I", Cond.methodLink RX5 44 yX5_decided, Cond.instanceMethod yX5_decided]
def wsX7_capabilities_r3 : List Cond := [Cond.selects RX5 yX5_decided yX5_decided, Cond.code yX5_decided cX5_decided 7 (some .int), Cond.fieldLink RX5 15 "SecretBroker$Policies" "patterns" "[I", Cond.fieldLink RX5 18 "SecretBroker$Policies" "opens" "[Z", Cond.fieldLink RX5 22 "SecretBroker$Policies" "sets" "[I", Cond.methodLink RX5 33 yX5_rulesOf, Cond.instanceMethod yX5_rulesOf, Cond.selects RX5 yX5_rulesOf yX5_rulesOf, Cond.code yX5_rulesOf cX5_rulesOf 2 (some .int), Cond.fieldLink RX5 9 "SecretBroker$Policies" "ruleCounts" "[I", Cond.methodLink RX5 29 yX5_has, Cond.instanceMethod yX5_has, Cond.selects RX5 yX5_has yX5_has, Cond.code yX5_has cX5_has 2 (some .boolean), Cond.methodLink RX5 48 yX4_fits, Cond.static yX4_fits, Cond.code yX4_fits cX4_fits 8 (some .boolean), Cond.methodLink RX4 16 yX4_length, Cond.static yX4_length, Cond.code yX4_length cX4_length 4 (some .int), Cond.methodLink RX4 20 yX4_withoutLast, Cond.static yX4_withoutLast, Cond.code yX4_withoutLast cX4_withoutLast 4 (some .int), Cond.methodLink RX5 54 yX5_goesAhead]
def wsX7_capabilities_r4 : List Cond := [Cond.instanceMethod yX5_goesAhead, Cond.selects RX5 yX5_goesAhead yX5_goesAhead, Cond.code yX5_goesAhead cX5_goesAhead 4 (some .boolean), Cond.methodLink RX5 58 yX4_length]
def wsX7_capabilities : List Cond := .code yX7_capabilities cX7_capabilities 3 (some .int) :: ((wsX7_capabilities_r1 ++ (wsX7_capabilities_r2 ++ (wsX7_capabilities_r3 ++ wsX7_capabilities_r4))) ++ wsX70 ++ wsX10 ++ wsX60 ++ wsX50 ++ (vx_atS RX7 247 "java/lang/IndexOutOfBoundsException" ["java/lang/RuntimeException", "java/lang/Exception"]).filter goodWord ++ (vx_atS RX7 76 "java/lang/IllegalArgumentException" ["java/lang/RuntimeException", "java/lang/Exception"]).filter goodWord)
def wsX7_reasonAgainst_r1 : List Cond := [Cond.fieldLink RX7 26 "SecretBroker" "tokenTable" "LSecretBroker$Tokens;", Cond.fieldLink RX7 19 "SecretBroker" "mountTable" "LSecretBroker$Mounts;", Cond.methodLink RX7 158 ⟨"SecretBroker$Tokens", "isOn", "(I)Z"⟩, Cond.sameMethod "SecretBroker$Tokens" "SecretBroker$Leased" "isOn" "(I)Z", Cond.selects RX6 ⟨"SecretBroker$Tokens", "isOn", "(I)Z"⟩ yX2_isOn, Cond.instanceMethod yX2_isOn, Cond.initialized RX2, Cond.code yX2_isOn cX2_isOn 2 (some .boolean), Cond.fieldLink RX2 21 "SecretBroker$Leased" "on" "[Z", Cond.methodLink RX2 32 ⟨"SecretBroker$Leased", "has", "(I)Z"⟩, Cond.sameMethod "SecretBroker$Leased" "SecretBroker$Leased" "has" "(I)Z", Cond.selects RX1 ⟨"SecretBroker$Leased", "has", "(I)Z"⟩ yX2_has, Cond.instanceMethod yX2_has, Cond.code yX2_has cX2_has 2 (some .boolean), Cond.fieldLink RX2 25 "SecretBroker$Leased" "made" "I", Cond.selects RX6 ⟨"SecretBroker$Leased", "has", "(I)Z"⟩ yX2_has, Cond.methodLink RX7 164 yX6_usesAt, Cond.instanceMethod yX6_usesAt, Cond.selects RX6 yX6_usesAt yX6_usesAt, Cond.initialized RX6, Cond.code yX6_usesAt cX6_usesAt 2 (some .int), Cond.fieldLink RX6 18 "SecretBroker$Tokens" "uses" "[I", Cond.methodLink RX6 29 ⟨"SecretBroker$Tokens", "has", "(I)Z"⟩, Cond.sameMethod "SecretBroker$Tokens" "SecretBroker$Leased" "has" "(I)Z"]
def wsX7_reasonAgainst_r2 : List Cond := [Cond.selects RX6 ⟨"SecretBroker$Tokens", "has", "(I)Z"⟩ yX2_has, Cond.methodLink RX7 277 yX3_nearest, Cond.instanceMethod yX3_nearest, Cond.selects RX3 yX3_nearest yX3_nearest, Cond.initialized RX3, Cond.code yX3_nearest cX3_nearest 4 (some .int), Cond.fieldLink RX3 21 "SecretBroker$Mounts" "count" "I", Cond.fieldLink RX3 9 "SecretBroker$Mounts" "paths" "[I", Cond.methodLink RX3 29 yX4_isBelow, Cond.static yX4_isBelow, Cond.initialized RX4, Cond.code yX4_isBelow cX4_isBelow 3 (some .boolean), Cond.methodLink RX4 16 yX4_length, Cond.static yX4_length, Cond.code yX4_length cX4_length 4 (some .int), Cond.methodLink RX4 20 yX4_withoutLast, Cond.static yX4_withoutLast, Cond.code yX4_withoutLast cX4_withoutLast 4 (some .int), Cond.methodLink RX7 170 yX7_capabilitiesAt, Cond.instanceMethod yX7_capabilitiesAt, Cond.selects RX7 yX7_capabilitiesAt yX7_capabilitiesAt, Cond.initialized RX7, Cond.code yX7_capabilitiesAt cX7_capabilitiesAt 4 (some .int), Cond.fieldLink RX7 10 "SecretBroker" "policyTable" "LSecretBroker$Policies;"]
def wsX7_reasonAgainst_r3 : List Cond := [Cond.methodLink RX7 271 yX6_policiesAt, Cond.instanceMethod yX6_policiesAt, Cond.selects RX6 yX6_policiesAt yX6_policiesAt, Cond.code yX6_policiesAt cX6_policiesAt 2 (some .int), Cond.fieldLink RX6 15 "SecretBroker$Tokens" "policySets" "[I", Cond.methodLink RX7 274 yX5_together, Cond.instanceMethod yX5_together, Cond.selects RX5 yX5_together yX5_together, Cond.initialized RX5, Cond.code yX5_together cX5_together 5 (some .int), Cond.fieldLink RX5 25 "SecretBroker$Policies" "count" "I", Cond.methodLink RX5 44 yX5_decided, Cond.instanceMethod yX5_decided, Cond.selects RX5 yX5_decided yX5_decided, Cond.code yX5_decided cX5_decided 7 (some .int), Cond.fieldLink RX5 15 "SecretBroker$Policies" "patterns" "[I", Cond.fieldLink RX5 18 "SecretBroker$Policies" "opens" "[Z", Cond.fieldLink RX5 22 "SecretBroker$Policies" "sets" "[I", Cond.methodLink RX5 33 yX5_rulesOf, Cond.instanceMethod yX5_rulesOf, Cond.selects RX5 yX5_rulesOf yX5_rulesOf, Cond.code yX5_rulesOf cX5_rulesOf 2 (some .int), Cond.fieldLink RX5 9 "SecretBroker$Policies" "ruleCounts" "[I", Cond.methodLink RX5 29 yX5_has]
def wsX7_reasonAgainst_r4 : List Cond := [Cond.instanceMethod yX5_has, Cond.selects RX5 yX5_has yX5_has, Cond.code yX5_has cX5_has 2 (some .boolean), Cond.methodLink RX5 48 yX4_fits, Cond.static yX4_fits, Cond.code yX4_fits cX4_fits 8 (some .boolean), Cond.methodLink RX5 54 yX5_goesAhead, Cond.instanceMethod yX5_goesAhead, Cond.selects RX5 yX5_goesAhead yX5_goesAhead, Cond.code yX5_goesAhead cX5_goesAhead 4 (some .boolean), Cond.methodLink RX5 58 yX4_length]
def wsX7_reasonAgainst : List Cond := .code yX7_reasonAgainst cX7_reasonAgainst 3 (some .int) :: ((wsX7_reasonAgainst_r1 ++ (wsX7_reasonAgainst_r2 ++ (wsX7_reasonAgainst_r3 ++ wsX7_reasonAgainst_r4))) ++ wsX70 ++ wsX10 ++ wsX60 ++ wsX30 ++ wsX50)
def wsX7_give_r1 : List Cond := [Cond.fieldLink RX7 19 "SecretBroker" "mountTable" "LSecretBroker$Mounts;", Cond.fieldLink RX7 44 "SecretBroker" "now" "I", Cond.fieldLink RX7 33 "SecretBroker" "credentialTable" "LSecretBroker$Credentials;", Cond.methodLink RX7 277 yX3_nearest, Cond.instanceMethod yX3_nearest, Cond.selects RX3 yX3_nearest yX3_nearest, Cond.initialized RX3, Cond.code yX3_nearest cX3_nearest 4 (some .int), Cond.fieldLink RX3 21 "SecretBroker$Mounts" "count" "I", Cond.fieldLink RX3 9 "SecretBroker$Mounts" "paths" "[I", Cond.methodLink RX3 29 yX4_isBelow, Cond.static yX4_isBelow, Cond.initialized RX4, Cond.code yX4_isBelow cX4_isBelow 3 (some .boolean), Cond.methodLink RX4 16 yX4_length, Cond.static yX4_length, Cond.code yX4_length cX4_length 4 (some .int), Cond.methodLink RX4 20 yX4_withoutLast, Cond.static yX4_withoutLast, Cond.code yX4_withoutLast cX4_withoutLast 4 (some .int), Cond.methodLink RX7 280 yX3_minutesAt, Cond.instanceMethod yX3_minutesAt, Cond.selects RX3 yX3_minutesAt yX3_minutesAt, Cond.code yX3_minutesAt cX3_minutesAt 2 (some .int)]
def wsX7_give_r2 : List Cond := [Cond.fieldLink RX3 15 "SecretBroker$Mounts" "minutes" "[I", Cond.methodLink RX3 35 yX3_has, Cond.instanceMethod yX3_has, Cond.selects RX3 yX3_has yX3_has, Cond.code yX3_has cX3_has 2 (some .boolean), Cond.methodLink RX7 283 yX3_boundAt, Cond.instanceMethod yX3_boundAt, Cond.selects RX3 yX3_boundAt yX3_boundAt, Cond.code yX3_boundAt cX3_boundAt 2 (some .int), Cond.fieldLink RX3 18 "SecretBroker$Mounts" "bounds" "[I", Cond.methodLink RX7 286 ⟨"SecretBroker$Credentials", "add", "(III)I"⟩, Cond.sameMethod "SecretBroker$Credentials" "SecretBroker$Leased" "add" "(III)I", Cond.selects RX1 ⟨"SecretBroker$Credentials", "add", "(III)I"⟩ yX2_add, Cond.instanceMethod yX2_add, Cond.initialized RX2, Cond.code yX2_add cX2_add 4 (some .int), Cond.fieldLink RX2 25 "SecretBroker$Leased" "made" "I", Cond.fieldLink RX2 9 "SecretBroker$Leased" "beginnings" "[I", Cond.fieldLink RX2 15 "SecretBroker$Leased" "ends" "[I", Cond.fieldLink RX2 18 "SecretBroker$Leased" "bounds" "[I", Cond.fieldLink RX2 21 "SecretBroker$Leased" "on" "[Z", Cond.fieldLink RX2 29 "SecretBroker$Leased" "living" "I", Cond.methodLink RX7 287 yX1_describe, Cond.instanceMethod yX1_describe]
def wsX7_give_r3 : List Cond := [Cond.selects RX1 yX1_describe yX1_describe, Cond.initialized RX1, Cond.code yX1_describe cX1_describe 4 none, Cond.fieldLink RX1 9 "SecretBroker$Credentials" "owners" "[I", Cond.fieldLink RX1 15 "SecretBroker$Credentials" "paths" "[I", Cond.methodLink RX1 18 ⟨"SecretBroker$Credentials", "has", "(I)Z"⟩, Cond.sameMethod "SecretBroker$Credentials" "SecretBroker$Leased" "has" "(I)Z", Cond.selects RX1 ⟨"SecretBroker$Credentials", "has", "(I)Z"⟩ yX2_has, Cond.instanceMethod yX2_has, Cond.code yX2_has cX2_has 2 (some .boolean)]
def wsX7_give : List Cond := .code yX7_give cX7_give 6 (some .int) :: ((wsX7_give_r1 ++ (wsX7_give_r2 ++ wsX7_give_r3)) ++ wsX70 ++ wsX30 ++ wsX10 ++ wsX60)
def wsX7_request_r1 : List Cond := [Cond.classLink RX7 52 "java/lang/IllegalStateException", Cond.initialized "java/lang/IllegalStateException", Cond.fieldLink RX7 33 "SecretBroker" "credentialTable" "LSecretBroker$Credentials;", Cond.fieldLink RX7 26 "SecretBroker" "tokenTable" "LSecretBroker$Tokens;", Cond.fieldLink RX7 40 "SecretBroker" "audit" "LSecretBroker$Audit;", Cond.fieldLink RX7 44 "SecretBroker" "now" "I", Cond.methodLink RX7 112 yX7_checkToken, Cond.instanceMethod yX7_checkToken, Cond.selects RX7 yX7_checkToken yX7_checkToken, Cond.initialized RX7, Cond.code yX7_checkToken cX7_checkToken 2 none, Cond.classLink RX7 243 "java/lang/IndexOutOfBoundsException", Cond.initialized "java/lang/IndexOutOfBoundsException", Cond.methodLink RX7 248 ⟨"SecretBroker$Tokens", "has", "(I)Z"⟩, Cond.sameMethod "SecretBroker$Tokens" "SecretBroker$Leased" "has" "(I)Z", Cond.selects RX6 ⟨"SecretBroker$Tokens", "has", "(I)Z"⟩ yX2_has, Cond.instanceMethod yX2_has, Cond.initialized RX2, Cond.code yX2_has cX2_has 2 (some .boolean), Cond.fieldLink RX2 25 "SecretBroker$Leased" "made" "I", Cond.methodLink RX7 98 yX7_checkPath, Cond.static yX7_checkPath, Cond.code yX7_checkPath cX7_checkPath 1 none, Cond.classLink RX7 72 "java/lang/IllegalArgumentException"]
def wsX7_request_r2 : List Cond := [Cond.initialized "java/lang/IllegalArgumentException", Cond.methodLink RX7 261 yX4_isPath, Cond.static yX4_isPath, Cond.initialized RX4, Cond.code yX4_isPath cX4_isPath 1 (some .boolean), Cond.methodLink RX4 9 yX4_hasDigits, Cond.static yX4_hasDigits, Cond.code yX4_hasDigits cX4_hasDigits 5 (some .boolean), Cond.constant RX4 15 (999999), Cond.methodLink RX7 174 yX7_reasonAgainst, Cond.instanceMethod yX7_reasonAgainst, Cond.selects RX7 yX7_reasonAgainst yX7_reasonAgainst, Cond.code yX7_reasonAgainst cX7_reasonAgainst 3 (some .int), Cond.fieldLink RX7 19 "SecretBroker" "mountTable" "LSecretBroker$Mounts;", Cond.methodLink RX7 158 ⟨"SecretBroker$Tokens", "isOn", "(I)Z"⟩, Cond.sameMethod "SecretBroker$Tokens" "SecretBroker$Leased" "isOn" "(I)Z", Cond.selects RX6 ⟨"SecretBroker$Tokens", "isOn", "(I)Z"⟩ yX2_isOn, Cond.instanceMethod yX2_isOn, Cond.code yX2_isOn cX2_isOn 2 (some .boolean), Cond.fieldLink RX2 21 "SecretBroker$Leased" "on" "[Z", Cond.methodLink RX2 32 ⟨"SecretBroker$Leased", "has", "(I)Z"⟩, Cond.sameMethod "SecretBroker$Leased" "SecretBroker$Leased" "has" "(I)Z", Cond.selects RX1 ⟨"SecretBroker$Leased", "has", "(I)Z"⟩ yX2_has, Cond.selects RX6 ⟨"SecretBroker$Leased", "has", "(I)Z"⟩ yX2_has]
def wsX7_request_r3 : List Cond := [Cond.methodLink RX7 164 yX6_usesAt, Cond.instanceMethod yX6_usesAt, Cond.selects RX6 yX6_usesAt yX6_usesAt, Cond.initialized RX6, Cond.code yX6_usesAt cX6_usesAt 2 (some .int), Cond.fieldLink RX6 18 "SecretBroker$Tokens" "uses" "[I", Cond.methodLink RX6 29 ⟨"SecretBroker$Tokens", "has", "(I)Z"⟩, Cond.methodLink RX7 277 yX3_nearest, Cond.instanceMethod yX3_nearest, Cond.selects RX3 yX3_nearest yX3_nearest, Cond.initialized RX3, Cond.code yX3_nearest cX3_nearest 4 (some .int), Cond.fieldLink RX3 21 "SecretBroker$Mounts" "count" "I", Cond.fieldLink RX3 9 "SecretBroker$Mounts" "paths" "[I", Cond.methodLink RX3 29 yX4_isBelow, Cond.static yX4_isBelow, Cond.code yX4_isBelow cX4_isBelow 3 (some .boolean), Cond.methodLink RX4 16 yX4_length, Cond.static yX4_length, Cond.code yX4_length cX4_length 4 (some .int), Cond.methodLink RX4 20 yX4_withoutLast, Cond.static yX4_withoutLast, Cond.code yX4_withoutLast cX4_withoutLast 4 (some .int), Cond.methodLink RX7 170 yX7_capabilitiesAt]
def wsX7_request_r4 : List Cond := [Cond.instanceMethod yX7_capabilitiesAt, Cond.selects RX7 yX7_capabilitiesAt yX7_capabilitiesAt, Cond.code yX7_capabilitiesAt cX7_capabilitiesAt 4 (some .int), Cond.fieldLink RX7 10 "SecretBroker" "policyTable" "LSecretBroker$Policies;", Cond.methodLink RX7 271 yX6_policiesAt, Cond.instanceMethod yX6_policiesAt, Cond.selects RX6 yX6_policiesAt yX6_policiesAt, Cond.code yX6_policiesAt cX6_policiesAt 2 (some .int), Cond.fieldLink RX6 15 "SecretBroker$Tokens" "policySets" "[I", Cond.methodLink RX7 274 yX5_together, Cond.instanceMethod yX5_together, Cond.selects RX5 yX5_together yX5_together, Cond.initialized RX5, Cond.code yX5_together cX5_together 5 (some .int), Cond.fieldLink RX5 25 "SecretBroker$Policies" "count" "I", Cond.methodLink RX5 44 yX5_decided, Cond.instanceMethod yX5_decided, Cond.selects RX5 yX5_decided yX5_decided, Cond.code yX5_decided cX5_decided 7 (some .int), Cond.fieldLink RX5 15 "SecretBroker$Policies" "patterns" "[I", Cond.fieldLink RX5 18 "SecretBroker$Policies" "opens" "[Z", Cond.fieldLink RX5 22 "SecretBroker$Policies" "sets" "[I", Cond.methodLink RX5 33 yX5_rulesOf, Cond.instanceMethod yX5_rulesOf]
def wsX7_request_r5 : List Cond := [Cond.selects RX5 yX5_rulesOf yX5_rulesOf, Cond.code yX5_rulesOf cX5_rulesOf 2 (some .int), Cond.fieldLink RX5 9 "SecretBroker$Policies" "ruleCounts" "[I", Cond.methodLink RX5 29 yX5_has, Cond.instanceMethod yX5_has, Cond.selects RX5 yX5_has yX5_has, Cond.code yX5_has cX5_has 2 (some .boolean), Cond.methodLink RX5 48 yX4_fits, Cond.static yX4_fits, Cond.code yX4_fits cX4_fits 8 (some .boolean), Cond.methodLink RX5 54 yX5_goesAhead, Cond.instanceMethod yX5_goesAhead, Cond.selects RX5 yX5_goesAhead yX5_goesAhead, Cond.code yX5_goesAhead cX5_goesAhead 4 (some .boolean), Cond.methodLink RX5 58 yX4_length, Cond.methodLink RX7 177 ⟨"SecretBroker$Credentials", "living", "()I"⟩, Cond.sameMethod "SecretBroker$Credentials" "SecretBroker$Leased" "living" "()I", Cond.selects RX1 ⟨"SecretBroker$Credentials", "living", "()I"⟩ yX2_living, Cond.instanceMethod yX2_living, Cond.code yX2_living cX2_living 1 (some .int), Cond.fieldLink RX2 29 "SecretBroker$Leased" "living" "I", Cond.methodLink RX7 178 ⟨"SecretBroker$Credentials", "isFull", "()Z"⟩, Cond.sameMethod "SecretBroker$Credentials" "SecretBroker$Leased" "isFull" "()Z", Cond.selects RX1 ⟨"SecretBroker$Credentials", "isFull", "()Z"⟩ yX2_isFull]
def wsX7_request_r6 : List Cond := [Cond.instanceMethod yX2_isFull, Cond.code yX2_isFull cX2_isFull 1 (some .boolean), Cond.methodLink RX7 181 yX6_takeUse, Cond.instanceMethod yX6_takeUse, Cond.selects RX6 yX6_takeUse yX6_takeUse, Cond.code yX6_takeUse cX6_takeUse 2 none, Cond.methodLink RX6 33 ⟨"SecretBroker$Tokens", "isOn", "(I)Z"⟩, Cond.methodLink RX7 140 yX0_write, Cond.instanceMethod yX0_write, Cond.selects RX0 yX0_write yX0_write, Cond.initialized RX0, Cond.code yX0_write cX0_write 7 none, Cond.fieldLink RX0 25 "SecretBroker$Audit" "count" "I", Cond.constantLong RX0 29 (17), Cond.fieldLink RX0 21 "SecretBroker$Audit" "sums" "[J", Cond.fieldLink RX0 9 "SecretBroker$Audit" "kinds" "[I", Cond.fieldLink RX0 15 "SecretBroker$Audit" "subjects" "[I", Cond.fieldLink RX0 18 "SecretBroker$Audit" "details" "[I", Cond.constantLong RX0 31 (31), Cond.constantLong RX0 33 (7), Cond.constantLong RX0 35 (5), Cond.constantLong RX0 37 (3), Cond.constantLong RX0 39 (1000003), Cond.methodLink RX7 184 yX7_give]
def wsX7_request_r7 : List Cond := [Cond.instanceMethod yX7_give, Cond.selects RX7 yX7_give yX7_give, Cond.code yX7_give cX7_give 6 (some .int), Cond.methodLink RX7 280 yX3_minutesAt, Cond.instanceMethod yX3_minutesAt, Cond.selects RX3 yX3_minutesAt yX3_minutesAt, Cond.code yX3_minutesAt cX3_minutesAt 2 (some .int), Cond.fieldLink RX3 15 "SecretBroker$Mounts" "minutes" "[I", Cond.methodLink RX3 35 yX3_has, Cond.instanceMethod yX3_has, Cond.selects RX3 yX3_has yX3_has, Cond.code yX3_has cX3_has 2 (some .boolean), Cond.methodLink RX7 283 yX3_boundAt, Cond.instanceMethod yX3_boundAt, Cond.selects RX3 yX3_boundAt yX3_boundAt, Cond.code yX3_boundAt cX3_boundAt 2 (some .int), Cond.fieldLink RX3 18 "SecretBroker$Mounts" "bounds" "[I", Cond.methodLink RX7 286 ⟨"SecretBroker$Credentials", "add", "(III)I"⟩, Cond.sameMethod "SecretBroker$Credentials" "SecretBroker$Leased" "add" "(III)I", Cond.selects RX1 ⟨"SecretBroker$Credentials", "add", "(III)I"⟩ yX2_add, Cond.instanceMethod yX2_add, Cond.code yX2_add cX2_add 4 (some .int), Cond.fieldLink RX2 9 "SecretBroker$Leased" "beginnings" "[I", Cond.fieldLink RX2 15 "SecretBroker$Leased" "ends" "[I"]
def wsX7_request_r8 : List Cond := [Cond.fieldLink RX2 18 "SecretBroker$Leased" "bounds" "[I", Cond.methodLink RX7 287 yX1_describe, Cond.instanceMethod yX1_describe, Cond.selects RX1 yX1_describe yX1_describe, Cond.initialized RX1, Cond.code yX1_describe cX1_describe 4 none, Cond.fieldLink RX1 9 "SecretBroker$Credentials" "owners" "[I", Cond.fieldLink RX1 15 "SecretBroker$Credentials" "paths" "[I", Cond.methodLink RX1 18 ⟨"SecretBroker$Credentials", "has", "(I)Z"⟩, Cond.sameMethod "SecretBroker$Credentials" "SecretBroker$Leased" "has" "(I)Z", Cond.selects RX1 ⟨"SecretBroker$Credentials", "has", "(I)Z"⟩ yX2_has]
def wsX7_request : List Cond := .code yX7_request cX7_request 5 (some .int) :: ((wsX7_request_r1 ++ (wsX7_request_r2 ++ (wsX7_request_r3 ++ (wsX7_request_r4 ++ (wsX7_request_r5 ++ (wsX7_request_r6 ++ (wsX7_request_r7 ++ wsX7_request_r8))))))) ++ wsX70 ++ wsX10 ++ wsX60 ++ wsX30 ++ wsX50 ++ wsX00 ++ (vx_atS RX7 56 "java/lang/IllegalStateException" ["java/lang/RuntimeException", "java/lang/Exception"]).filter goodWord ++ (vx_atS RX7 247 "java/lang/IndexOutOfBoundsException" ["java/lang/RuntimeException", "java/lang/Exception"]).filter goodWord ++ (vx_atS RX7 76 "java/lang/IllegalArgumentException" ["java/lang/RuntimeException", "java/lang/Exception"]).filter goodWord)
def wsX7_whyDenied_r1 : List Cond := [Cond.methodLink RX7 112 yX7_checkToken, Cond.instanceMethod yX7_checkToken, Cond.selects RX7 yX7_checkToken yX7_checkToken, Cond.initialized RX7, Cond.code yX7_checkToken cX7_checkToken 2 none, Cond.classLink RX7 243 "java/lang/IndexOutOfBoundsException", Cond.initialized "java/lang/IndexOutOfBoundsException", Cond.fieldLink RX7 26 "SecretBroker" "tokenTable" "LSecretBroker$Tokens;", Cond.methodLink RX7 248 ⟨"SecretBroker$Tokens", "has", "(I)Z"⟩, Cond.sameMethod "SecretBroker$Tokens" "SecretBroker$Leased" "has" "(I)Z", Cond.selects RX6 ⟨"SecretBroker$Tokens", "has", "(I)Z"⟩ yX2_has, Cond.instanceMethod yX2_has, Cond.initialized RX2, Cond.code yX2_has cX2_has 2 (some .boolean), Cond.fieldLink RX2 25 "SecretBroker$Leased" "made" "I", Cond.methodLink RX7 98 yX7_checkPath, Cond.static yX7_checkPath, Cond.code yX7_checkPath cX7_checkPath 1 none, Cond.classLink RX7 72 "java/lang/IllegalArgumentException", Cond.initialized "java/lang/IllegalArgumentException", Cond.methodLink RX7 261 yX4_isPath, Cond.static yX4_isPath, Cond.initialized RX4, Cond.code yX4_isPath cX4_isPath 1 (some .boolean)]
def wsX7_whyDenied_r2 : List Cond := [Cond.methodLink RX4 9 yX4_hasDigits, Cond.static yX4_hasDigits, Cond.code yX4_hasDigits cX4_hasDigits 5 (some .boolean), Cond.constant RX4 15 (999999), Cond.methodLink RX7 174 yX7_reasonAgainst, Cond.instanceMethod yX7_reasonAgainst, Cond.selects RX7 yX7_reasonAgainst yX7_reasonAgainst, Cond.code yX7_reasonAgainst cX7_reasonAgainst 3 (some .int), Cond.fieldLink RX7 19 "SecretBroker" "mountTable" "LSecretBroker$Mounts;", Cond.methodLink RX7 158 ⟨"SecretBroker$Tokens", "isOn", "(I)Z"⟩, Cond.sameMethod "SecretBroker$Tokens" "SecretBroker$Leased" "isOn" "(I)Z", Cond.selects RX6 ⟨"SecretBroker$Tokens", "isOn", "(I)Z"⟩ yX2_isOn, Cond.instanceMethod yX2_isOn, Cond.code yX2_isOn cX2_isOn 2 (some .boolean), Cond.fieldLink RX2 21 "SecretBroker$Leased" "on" "[Z", Cond.methodLink RX2 32 ⟨"SecretBroker$Leased", "has", "(I)Z"⟩, Cond.sameMethod "SecretBroker$Leased" "SecretBroker$Leased" "has" "(I)Z", Cond.selects RX1 ⟨"SecretBroker$Leased", "has", "(I)Z"⟩ yX2_has, Cond.selects RX6 ⟨"SecretBroker$Leased", "has", "(I)Z"⟩ yX2_has, Cond.methodLink RX7 164 yX6_usesAt, Cond.instanceMethod yX6_usesAt, Cond.selects RX6 yX6_usesAt yX6_usesAt, Cond.initialized RX6, Cond.code yX6_usesAt cX6_usesAt 2 (some .int)]
def wsX7_whyDenied_r3 : List Cond := [Cond.fieldLink RX6 18 "SecretBroker$Tokens" "uses" "[I", Cond.methodLink RX6 29 ⟨"SecretBroker$Tokens", "has", "(I)Z"⟩, Cond.methodLink RX7 277 yX3_nearest, Cond.instanceMethod yX3_nearest, Cond.selects RX3 yX3_nearest yX3_nearest, Cond.initialized RX3, Cond.code yX3_nearest cX3_nearest 4 (some .int), Cond.fieldLink RX3 21 "SecretBroker$Mounts" "count" "I", Cond.fieldLink RX3 9 "SecretBroker$Mounts" "paths" "[I", Cond.methodLink RX3 29 yX4_isBelow, Cond.static yX4_isBelow, Cond.code yX4_isBelow cX4_isBelow 3 (some .boolean), Cond.methodLink RX4 16 yX4_length, Cond.static yX4_length, Cond.code yX4_length cX4_length 4 (some .int), Cond.methodLink RX4 20 yX4_withoutLast, Cond.static yX4_withoutLast, Cond.code yX4_withoutLast cX4_withoutLast 4 (some .int), Cond.methodLink RX7 170 yX7_capabilitiesAt, Cond.instanceMethod yX7_capabilitiesAt, Cond.selects RX7 yX7_capabilitiesAt yX7_capabilitiesAt, Cond.code yX7_capabilitiesAt cX7_capabilitiesAt 4 (some .int), Cond.fieldLink RX7 10 "SecretBroker" "policyTable" "LSecretBroker$Policies;", Cond.methodLink RX7 271 yX6_policiesAt]
def wsX7_whyDenied_r4 : List Cond := [Cond.instanceMethod yX6_policiesAt, Cond.selects RX6 yX6_policiesAt yX6_policiesAt, Cond.code yX6_policiesAt cX6_policiesAt 2 (some .int), Cond.fieldLink RX6 15 "SecretBroker$Tokens" "policySets" "[I", Cond.methodLink RX7 274 yX5_together, Cond.instanceMethod yX5_together, Cond.selects RX5 yX5_together yX5_together, Cond.initialized RX5, Cond.code yX5_together cX5_together 5 (some .int), Cond.fieldLink RX5 25 "SecretBroker$Policies" "count" "I", Cond.methodLink RX5 44 yX5_decided, Cond.instanceMethod yX5_decided, Cond.selects RX5 yX5_decided yX5_decided, Cond.code yX5_decided cX5_decided 7 (some .int), Cond.fieldLink RX5 15 "SecretBroker$Policies" "patterns" "[I", Cond.fieldLink RX5 18 "SecretBroker$Policies" "opens" "[Z", Cond.fieldLink RX5 22 "SecretBroker$Policies" "sets" "[I", Cond.methodLink RX5 33 yX5_rulesOf, Cond.instanceMethod yX5_rulesOf, Cond.selects RX5 yX5_rulesOf yX5_rulesOf, Cond.code yX5_rulesOf cX5_rulesOf 2 (some .int), Cond.fieldLink RX5 9 "SecretBroker$Policies" "ruleCounts" "[I", Cond.methodLink RX5 29 yX5_has, Cond.instanceMethod yX5_has]
def wsX7_whyDenied_r5 : List Cond := [Cond.selects RX5 yX5_has yX5_has, Cond.code yX5_has cX5_has 2 (some .boolean), Cond.methodLink RX5 48 yX4_fits, Cond.static yX4_fits, Cond.code yX4_fits cX4_fits 8 (some .boolean), Cond.methodLink RX5 54 yX5_goesAhead, Cond.instanceMethod yX5_goesAhead, Cond.selects RX5 yX5_goesAhead yX5_goesAhead, Cond.code yX5_goesAhead cX5_goesAhead 4 (some .boolean), Cond.methodLink RX5 58 yX4_length]
def wsX7_whyDenied : List Cond := .code yX7_whyDenied cX7_whyDenied 3 (some .int) :: ((wsX7_whyDenied_r1 ++ (wsX7_whyDenied_r2 ++ (wsX7_whyDenied_r3 ++ (wsX7_whyDenied_r4 ++ wsX7_whyDenied_r5)))) ++ wsX70 ++ wsX10 ++ wsX60 ++ wsX30 ++ wsX50 ++ (vx_atS RX7 247 "java/lang/IndexOutOfBoundsException" ["java/lang/RuntimeException", "java/lang/Exception"]).filter goodWord ++ (vx_atS RX7 76 "java/lang/IllegalArgumentException" ["java/lang/RuntimeException", "java/lang/Exception"]).filter goodWord)
def wsX7_checkCredential : List Cond := .code yX7_checkCredential cX7_checkCredential 2 none :: ([.classLink RX7 243 "java/lang/IndexOutOfBoundsException", .initialized "java/lang/IndexOutOfBoundsException", .fieldLink RX7 33 "SecretBroker" "credentialTable" "LSecretBroker$Credentials;", .methodLink RX7 251 ⟨"SecretBroker$Credentials", "has", "(I)Z"⟩, .sameMethod "SecretBroker$Credentials" "SecretBroker$Leased" "has" "(I)Z", .selects RX1 ⟨"SecretBroker$Credentials", "has", "(I)Z"⟩ yX2_has, .instanceMethod yX2_has, .initialized RX2, .code yX2_has cX2_has 2 (some .boolean), .fieldLink RX2 25 "SecretBroker$Leased" "made" "I"] ++ wsX70 ++ wsX10 ++ wsX60 ++ (vx_atS RX7 247 "java/lang/IndexOutOfBoundsException" ["java/lang/RuntimeException", "java/lang/Exception"]).filter goodWord)
def wsX7_renewCredential_r1 : List Cond := [Cond.classLink RX7 52 "java/lang/IllegalStateException", Cond.initialized "java/lang/IllegalStateException", Cond.fieldLink RX7 33 "SecretBroker" "credentialTable" "LSecretBroker$Credentials;", Cond.fieldLink RX7 44 "SecretBroker" "now" "I", Cond.fieldLink RX7 40 "SecretBroker" "audit" "LSecretBroker$Audit;", Cond.methodLink RX7 187 yX7_checkCredential, Cond.instanceMethod yX7_checkCredential, Cond.selects RX7 yX7_checkCredential yX7_checkCredential, Cond.initialized RX7, Cond.code yX7_checkCredential cX7_checkCredential 2 none, Cond.classLink RX7 243 "java/lang/IndexOutOfBoundsException", Cond.initialized "java/lang/IndexOutOfBoundsException", Cond.methodLink RX7 251 ⟨"SecretBroker$Credentials", "has", "(I)Z"⟩, Cond.sameMethod "SecretBroker$Credentials" "SecretBroker$Leased" "has" "(I)Z", Cond.selects RX1 ⟨"SecretBroker$Credentials", "has", "(I)Z"⟩ yX2_has, Cond.instanceMethod yX2_has, Cond.initialized RX2, Cond.code yX2_has cX2_has 2 (some .boolean), Cond.fieldLink RX2 25 "SecretBroker$Leased" "made" "I", Cond.methodLink RX7 77 yX7_checkRange, Cond.static yX7_checkRange, Cond.code yX7_checkRange cX7_checkRange 3 none, Cond.classLink RX7 72 "java/lang/IllegalArgumentException", Cond.initialized "java/lang/IllegalArgumentException"]
def wsX7_renewCredential_r2 : List Cond := [Cond.methodLink RX7 190 ⟨"SecretBroker$Credentials", "isOn", "(I)Z"⟩, Cond.sameMethod "SecretBroker$Credentials" "SecretBroker$Leased" "isOn" "(I)Z", Cond.selects RX1 ⟨"SecretBroker$Credentials", "isOn", "(I)Z"⟩ yX2_isOn, Cond.instanceMethod yX2_isOn, Cond.code yX2_isOn cX2_isOn 2 (some .boolean), Cond.fieldLink RX2 21 "SecretBroker$Leased" "on" "[Z", Cond.methodLink RX2 32 ⟨"SecretBroker$Leased", "has", "(I)Z"⟩, Cond.sameMethod "SecretBroker$Leased" "SecretBroker$Leased" "has" "(I)Z", Cond.selects RX1 ⟨"SecretBroker$Leased", "has", "(I)Z"⟩ yX2_has, Cond.selects RX6 ⟨"SecretBroker$Leased", "has", "(I)Z"⟩ yX2_has, Cond.methodLink RX7 193 ⟨"SecretBroker$Credentials", "prolong", "(III)V"⟩, Cond.sameMethod "SecretBroker$Credentials" "SecretBroker$Leased" "prolong" "(III)V", Cond.selects RX1 ⟨"SecretBroker$Credentials", "prolong", "(III)V"⟩ yX2_prolong, Cond.instanceMethod yX2_prolong, Cond.code yX2_prolong cX2_prolong 5 none, Cond.fieldLink RX2 9 "SecretBroker$Leased" "beginnings" "[I", Cond.fieldLink RX2 18 "SecretBroker$Leased" "bounds" "[I", Cond.fieldLink RX2 15 "SecretBroker$Leased" "ends" "[I", Cond.methodLink RX2 36 Lib.Math.min.name, Cond.static Lib.Math.min.name, Cond.initialized "java/lang/Math", Cond.code Lib.Math.min.name Lib.Math.min.code 2 (some .int), Cond.methodLink RX2 42 Lib.Math.max.name, Cond.static Lib.Math.max.name]
def wsX7_renewCredential_r3 : List Cond := [Cond.code Lib.Math.max.name Lib.Math.max.code 2 (some .int), Cond.methodLink RX7 194 ⟨"SecretBroker$Credentials", "endAt", "(I)I"⟩, Cond.sameMethod "SecretBroker$Credentials" "SecretBroker$Leased" "endAt" "(I)I", Cond.selects RX1 ⟨"SecretBroker$Credentials", "endAt", "(I)I"⟩ yX2_endAt, Cond.instanceMethod yX2_endAt, Cond.code yX2_endAt cX2_endAt 2 (some .int), Cond.methodLink RX7 195 yX1_ownerAt, Cond.instanceMethod yX1_ownerAt, Cond.selects RX1 yX1_ownerAt yX1_ownerAt, Cond.initialized RX1, Cond.code yX1_ownerAt cX1_ownerAt 2 (some .int), Cond.fieldLink RX1 9 "SecretBroker$Credentials" "owners" "[I", Cond.methodLink RX1 18 ⟨"SecretBroker$Credentials", "has", "(I)Z"⟩, Cond.methodLink RX7 140 yX0_write, Cond.instanceMethod yX0_write, Cond.selects RX0 yX0_write yX0_write, Cond.initialized RX0, Cond.code yX0_write cX0_write 7 none, Cond.fieldLink RX0 25 "SecretBroker$Audit" "count" "I", Cond.constantLong RX0 29 (17), Cond.fieldLink RX0 21 "SecretBroker$Audit" "sums" "[J", Cond.fieldLink RX0 9 "SecretBroker$Audit" "kinds" "[I", Cond.fieldLink RX0 15 "SecretBroker$Audit" "subjects" "[I", Cond.fieldLink RX0 18 "SecretBroker$Audit" "details" "[I"]
def wsX7_renewCredential_r4 : List Cond := [Cond.constantLong RX0 31 (31), Cond.constantLong RX0 33 (7), Cond.constantLong RX0 35 (5), Cond.constantLong RX0 37 (3), Cond.constantLong RX0 39 (1000003)]
def wsX7_renewCredential : List Cond := .code yX7_renewCredential cX7_renewCredential 4 (some .int) :: ((wsX7_renewCredential_r1 ++ (wsX7_renewCredential_r2 ++ (wsX7_renewCredential_r3 ++ wsX7_renewCredential_r4))) ++ wsX70 ++ wsX10 ++ wsX60 ++ wsX00 ++ (vx_atS RX7 56 "java/lang/IllegalStateException" ["java/lang/RuntimeException", "java/lang/Exception"]).filter goodWord ++ (vx_atS RX7 247 "java/lang/IndexOutOfBoundsException" ["java/lang/RuntimeException", "java/lang/Exception"]).filter goodWord ++ (vx_atS RX7 76 "java/lang/IllegalArgumentException" ["java/lang/RuntimeException", "java/lang/Exception"]).filter goodWord)
def wsX7_revokeBelow_r1 : List Cond := [Cond.fieldLink RX7 33 "SecretBroker" "credentialTable" "LSecretBroker$Credentials;", Cond.fieldLink RX7 40 "SecretBroker" "audit" "LSecretBroker$Audit;", Cond.fieldLink RX7 44 "SecretBroker" "now" "I", Cond.methodLink RX7 98 yX7_checkPath, Cond.static yX7_checkPath, Cond.initialized RX7, Cond.code yX7_checkPath cX7_checkPath 1 none, Cond.classLink RX7 72 "java/lang/IllegalArgumentException", Cond.initialized "java/lang/IllegalArgumentException", Cond.methodLink RX7 261 yX4_isPath, Cond.static yX4_isPath, Cond.initialized RX4, Cond.code yX4_isPath cX4_isPath 1 (some .boolean), Cond.methodLink RX4 9 yX4_hasDigits, Cond.static yX4_hasDigits, Cond.code yX4_hasDigits cX4_hasDigits 5 (some .boolean), Cond.constant RX4 15 (999999), Cond.methodLink RX7 198 yX1_endBelow, Cond.instanceMethod yX1_endBelow, Cond.selects RX1 yX1_endBelow yX1_endBelow, Cond.initialized RX1, Cond.code yX1_endBelow cX1_endBelow 4 (some .int), Cond.fieldLink RX1 15 "SecretBroker$Credentials" "paths" "[I", Cond.methodLink RX1 22 ⟨"SecretBroker$Credentials", "made", "()I"⟩]
def wsX7_revokeBelow_r2 : List Cond := [Cond.sameMethod "SecretBroker$Credentials" "SecretBroker$Leased" "made" "()I", Cond.selects RX1 ⟨"SecretBroker$Credentials", "made", "()I"⟩ yX2_made, Cond.instanceMethod yX2_made, Cond.initialized RX2, Cond.code yX2_made cX2_made 1 (some .int), Cond.fieldLink RX2 25 "SecretBroker$Leased" "made" "I", Cond.methodLink RX1 29 yX4_isBelow, Cond.static yX4_isBelow, Cond.code yX4_isBelow cX4_isBelow 3 (some .boolean), Cond.methodLink RX4 16 yX4_length, Cond.static yX4_length, Cond.code yX4_length cX4_length 4 (some .int), Cond.methodLink RX4 20 yX4_withoutLast, Cond.static yX4_withoutLast, Cond.code yX4_withoutLast cX4_withoutLast 4 (some .int), Cond.methodLink RX1 35 ⟨"SecretBroker$Credentials", "end", "(I)I"⟩, Cond.sameMethod "SecretBroker$Credentials" "SecretBroker$Leased" "end" "(I)I", Cond.selects RX1 ⟨"SecretBroker$Credentials", "end", "(I)I"⟩ yX2_end, Cond.instanceMethod yX2_end, Cond.code yX2_end cX2_end 2 (some .int), Cond.fieldLink RX2 21 "SecretBroker$Leased" "on" "[Z", Cond.fieldLink RX2 29 "SecretBroker$Leased" "living" "I", Cond.methodLink RX2 45 ⟨"SecretBroker$Leased", "isOn", "(I)Z"⟩, Cond.sameMethod "SecretBroker$Leased" "SecretBroker$Leased" "isOn" "(I)Z"]
def wsX7_revokeBelow_r3 : List Cond := [Cond.selects RX1 ⟨"SecretBroker$Leased", "isOn", "(I)Z"⟩ yX2_isOn, Cond.instanceMethod yX2_isOn, Cond.code yX2_isOn cX2_isOn 2 (some .boolean), Cond.methodLink RX2 32 ⟨"SecretBroker$Leased", "has", "(I)Z"⟩, Cond.sameMethod "SecretBroker$Leased" "SecretBroker$Leased" "has" "(I)Z", Cond.selects RX1 ⟨"SecretBroker$Leased", "has", "(I)Z"⟩ yX2_has, Cond.instanceMethod yX2_has, Cond.code yX2_has cX2_has 2 (some .boolean), Cond.selects RX6 ⟨"SecretBroker$Leased", "has", "(I)Z"⟩ yX2_has, Cond.selects RX6 ⟨"SecretBroker$Leased", "isOn", "(I)Z"⟩ yX2_isOn, Cond.methodLink RX7 140 yX0_write, Cond.instanceMethod yX0_write, Cond.selects RX0 yX0_write yX0_write, Cond.initialized RX0, Cond.code yX0_write cX0_write 7 none, Cond.fieldLink RX0 25 "SecretBroker$Audit" "count" "I", Cond.constantLong RX0 29 (17), Cond.fieldLink RX0 21 "SecretBroker$Audit" "sums" "[J", Cond.fieldLink RX0 9 "SecretBroker$Audit" "kinds" "[I", Cond.fieldLink RX0 15 "SecretBroker$Audit" "subjects" "[I", Cond.fieldLink RX0 18 "SecretBroker$Audit" "details" "[I", Cond.constantLong RX0 31 (31), Cond.constantLong RX0 33 (7), Cond.constantLong RX0 35 (5)]
def wsX7_revokeBelow_r4 : List Cond := [Cond.constantLong RX0 37 (3), Cond.constantLong RX0 39 (1000003)]
def wsX7_revokeBelow : List Cond := .code yX7_revokeBelow cX7_revokeBelow 3 (some .int) :: ((wsX7_revokeBelow_r1 ++ (wsX7_revokeBelow_r2 ++ (wsX7_revokeBelow_r3 ++ wsX7_revokeBelow_r4))) ++ wsX70 ++ wsX10 ++ wsX60 ++ wsX00 ++ (vx_atS RX7 76 "java/lang/IllegalArgumentException" ["java/lang/RuntimeException", "java/lang/Exception"]).filter goodWord)
def wsX7_works_r1 : List Cond := [Cond.fieldLink RX7 33 "SecretBroker" "credentialTable" "LSecretBroker$Credentials;", Cond.methodLink RX7 187 yX7_checkCredential, Cond.instanceMethod yX7_checkCredential, Cond.selects RX7 yX7_checkCredential yX7_checkCredential, Cond.initialized RX7, Cond.code yX7_checkCredential cX7_checkCredential 2 none, Cond.classLink RX7 243 "java/lang/IndexOutOfBoundsException", Cond.initialized "java/lang/IndexOutOfBoundsException", Cond.methodLink RX7 251 ⟨"SecretBroker$Credentials", "has", "(I)Z"⟩, Cond.sameMethod "SecretBroker$Credentials" "SecretBroker$Leased" "has" "(I)Z", Cond.selects RX1 ⟨"SecretBroker$Credentials", "has", "(I)Z"⟩ yX2_has, Cond.instanceMethod yX2_has, Cond.initialized RX2, Cond.code yX2_has cX2_has 2 (some .boolean), Cond.fieldLink RX2 25 "SecretBroker$Leased" "made" "I", Cond.methodLink RX7 190 ⟨"SecretBroker$Credentials", "isOn", "(I)Z"⟩, Cond.sameMethod "SecretBroker$Credentials" "SecretBroker$Leased" "isOn" "(I)Z", Cond.selects RX1 ⟨"SecretBroker$Credentials", "isOn", "(I)Z"⟩ yX2_isOn, Cond.instanceMethod yX2_isOn, Cond.code yX2_isOn cX2_isOn 2 (some .boolean), Cond.fieldLink RX2 21 "SecretBroker$Leased" "on" "[Z", Cond.methodLink RX2 32 ⟨"SecretBroker$Leased", "has", "(I)Z"⟩, Cond.sameMethod "SecretBroker$Leased" "SecretBroker$Leased" "has" "(I)Z", Cond.selects RX1 ⟨"SecretBroker$Leased", "has", "(I)Z"⟩ yX2_has]
def wsX7_works_r2 : List Cond := [Cond.selects RX6 ⟨"SecretBroker$Leased", "has", "(I)Z"⟩ yX2_has]
def wsX7_works : List Cond := .code yX7_works cX7_works 2 (some .boolean) :: ((wsX7_works_r1 ++ wsX7_works_r2) ++ wsX70 ++ wsX10 ++ wsX60 ++ (vx_atS RX7 247 "java/lang/IndexOutOfBoundsException" ["java/lang/RuntimeException", "java/lang/Exception"]).filter goodWord)
def wsX7_endOfCredential_r1 : List Cond := [Cond.fieldLink RX7 33 "SecretBroker" "credentialTable" "LSecretBroker$Credentials;", Cond.methodLink RX7 187 yX7_checkCredential, Cond.instanceMethod yX7_checkCredential, Cond.selects RX7 yX7_checkCredential yX7_checkCredential, Cond.initialized RX7, Cond.code yX7_checkCredential cX7_checkCredential 2 none, Cond.classLink RX7 243 "java/lang/IndexOutOfBoundsException", Cond.initialized "java/lang/IndexOutOfBoundsException", Cond.methodLink RX7 251 ⟨"SecretBroker$Credentials", "has", "(I)Z"⟩, Cond.sameMethod "SecretBroker$Credentials" "SecretBroker$Leased" "has" "(I)Z", Cond.selects RX1 ⟨"SecretBroker$Credentials", "has", "(I)Z"⟩ yX2_has, Cond.instanceMethod yX2_has, Cond.initialized RX2, Cond.code yX2_has cX2_has 2 (some .boolean), Cond.fieldLink RX2 25 "SecretBroker$Leased" "made" "I", Cond.methodLink RX7 194 ⟨"SecretBroker$Credentials", "endAt", "(I)I"⟩, Cond.sameMethod "SecretBroker$Credentials" "SecretBroker$Leased" "endAt" "(I)I", Cond.selects RX1 ⟨"SecretBroker$Credentials", "endAt", "(I)I"⟩ yX2_endAt, Cond.instanceMethod yX2_endAt, Cond.code yX2_endAt cX2_endAt 2 (some .int), Cond.fieldLink RX2 15 "SecretBroker$Leased" "ends" "[I", Cond.methodLink RX2 32 ⟨"SecretBroker$Leased", "has", "(I)Z"⟩, Cond.sameMethod "SecretBroker$Leased" "SecretBroker$Leased" "has" "(I)Z", Cond.selects RX1 ⟨"SecretBroker$Leased", "has", "(I)Z"⟩ yX2_has]
def wsX7_endOfCredential_r2 : List Cond := [Cond.selects RX6 ⟨"SecretBroker$Leased", "has", "(I)Z"⟩ yX2_has]
def wsX7_endOfCredential : List Cond := .code yX7_endOfCredential cX7_endOfCredential 2 (some .int) :: ((wsX7_endOfCredential_r1 ++ wsX7_endOfCredential_r2) ++ wsX70 ++ wsX10 ++ wsX60 ++ (vx_atS RX7 247 "java/lang/IndexOutOfBoundsException" ["java/lang/RuntimeException", "java/lang/Exception"]).filter goodWord)
def wsX7_credentials : List Cond := .code yX7_credentials cX7_credentials 1 (some .int) :: ([.fieldLink RX7 33 "SecretBroker" "credentialTable" "LSecretBroker$Credentials;", .methodLink RX7 177 ⟨"SecretBroker$Credentials", "living", "()I"⟩, .sameMethod "SecretBroker$Credentials" "SecretBroker$Leased" "living" "()I", .selects RX1 ⟨"SecretBroker$Credentials", "living", "()I"⟩ yX2_living, .instanceMethod yX2_living, .initialized RX2, .code yX2_living cX2_living 1 (some .int), .fieldLink RX2 29 "SecretBroker$Leased" "living" "I"] ++ wsX70 ++ wsX10 ++ wsX60)
def wsX7_credentialsOf_r1 : List Cond := [Cond.fieldLink RX7 33 "SecretBroker" "credentialTable" "LSecretBroker$Credentials;", Cond.methodLink RX7 112 yX7_checkToken, Cond.instanceMethod yX7_checkToken, Cond.selects RX7 yX7_checkToken yX7_checkToken, Cond.initialized RX7, Cond.code yX7_checkToken cX7_checkToken 2 none, Cond.classLink RX7 243 "java/lang/IndexOutOfBoundsException", Cond.initialized "java/lang/IndexOutOfBoundsException", Cond.fieldLink RX7 26 "SecretBroker" "tokenTable" "LSecretBroker$Tokens;", Cond.methodLink RX7 248 ⟨"SecretBroker$Tokens", "has", "(I)Z"⟩, Cond.sameMethod "SecretBroker$Tokens" "SecretBroker$Leased" "has" "(I)Z", Cond.selects RX6 ⟨"SecretBroker$Tokens", "has", "(I)Z"⟩ yX2_has, Cond.instanceMethod yX2_has, Cond.initialized RX2, Cond.code yX2_has cX2_has 2 (some .boolean), Cond.fieldLink RX2 25 "SecretBroker$Leased" "made" "I", Cond.methodLink RX7 201 yX1_livingOf, Cond.instanceMethod yX1_livingOf, Cond.selects RX1 yX1_livingOf yX1_livingOf, Cond.initialized RX1, Cond.code yX1_livingOf cX1_livingOf 4 (some .int), Cond.fieldLink RX1 9 "SecretBroker$Credentials" "owners" "[I", Cond.methodLink RX1 22 ⟨"SecretBroker$Credentials", "made", "()I"⟩, Cond.sameMethod "SecretBroker$Credentials" "SecretBroker$Leased" "made" "()I"]
def wsX7_credentialsOf_r2 : List Cond := [Cond.selects RX1 ⟨"SecretBroker$Credentials", "made", "()I"⟩ yX2_made, Cond.instanceMethod yX2_made, Cond.code yX2_made cX2_made 1 (some .int), Cond.methodLink RX1 26 ⟨"SecretBroker$Credentials", "isOn", "(I)Z"⟩, Cond.sameMethod "SecretBroker$Credentials" "SecretBroker$Leased" "isOn" "(I)Z", Cond.selects RX1 ⟨"SecretBroker$Credentials", "isOn", "(I)Z"⟩ yX2_isOn, Cond.instanceMethod yX2_isOn, Cond.code yX2_isOn cX2_isOn 2 (some .boolean), Cond.fieldLink RX2 21 "SecretBroker$Leased" "on" "[Z", Cond.methodLink RX2 32 ⟨"SecretBroker$Leased", "has", "(I)Z"⟩, Cond.sameMethod "SecretBroker$Leased" "SecretBroker$Leased" "has" "(I)Z", Cond.selects RX1 ⟨"SecretBroker$Leased", "has", "(I)Z"⟩ yX2_has, Cond.selects RX6 ⟨"SecretBroker$Leased", "has", "(I)Z"⟩ yX2_has]
def wsX7_credentialsOf : List Cond := .code yX7_credentialsOf cX7_credentialsOf 2 (some .int) :: ((wsX7_credentialsOf_r1 ++ wsX7_credentialsOf_r2) ++ wsX70 ++ wsX10 ++ wsX60 ++ (vx_atS RX7 247 "java/lang/IndexOutOfBoundsException" ["java/lang/RuntimeException", "java/lang/Exception"]).filter goodWord)
def wsX7_pass_r1 : List Cond := [Cond.fieldLink RX7 44 "SecretBroker" "now" "I", Cond.fieldLink RX7 26 "SecretBroker" "tokenTable" "LSecretBroker$Tokens;", Cond.fieldLink RX7 33 "SecretBroker" "credentialTable" "LSecretBroker$Credentials;", Cond.fieldLink RX7 40 "SecretBroker" "audit" "LSecretBroker$Audit;", Cond.methodLink RX7 77 yX7_checkRange, Cond.static yX7_checkRange, Cond.initialized RX7, Cond.code yX7_checkRange cX7_checkRange 3 none, Cond.classLink RX7 72 "java/lang/IllegalArgumentException", Cond.initialized "java/lang/IllegalArgumentException", Cond.methodLink RX7 204 ⟨"SecretBroker$Tokens", "endByTime", "(I)I"⟩, Cond.sameMethod "SecretBroker$Tokens" "SecretBroker$Leased" "endByTime" "(I)I", Cond.selects RX6 ⟨"SecretBroker$Tokens", "endByTime", "(I)I"⟩ yX2_endByTime, Cond.instanceMethod yX2_endByTime, Cond.initialized RX2, Cond.code yX2_endByTime cX2_endByTime 4 (some .int), Cond.fieldLink RX2 25 "SecretBroker$Leased" "made" "I", Cond.fieldLink RX2 15 "SecretBroker$Leased" "ends" "[I", Cond.methodLink RX2 48 ⟨"SecretBroker$Leased", "end", "(I)I"⟩, Cond.sameMethod "SecretBroker$Leased" "SecretBroker$Leased" "end" "(I)I", Cond.selects RX1 ⟨"SecretBroker$Leased", "end", "(I)I"⟩ yX2_end, Cond.instanceMethod yX2_end, Cond.code yX2_end cX2_end 2 (some .int), Cond.fieldLink RX2 21 "SecretBroker$Leased" "on" "[Z"]
def wsX7_pass_r2 : List Cond := [Cond.fieldLink RX2 29 "SecretBroker$Leased" "living" "I", Cond.methodLink RX2 45 ⟨"SecretBroker$Leased", "isOn", "(I)Z"⟩, Cond.sameMethod "SecretBroker$Leased" "SecretBroker$Leased" "isOn" "(I)Z", Cond.selects RX1 ⟨"SecretBroker$Leased", "isOn", "(I)Z"⟩ yX2_isOn, Cond.instanceMethod yX2_isOn, Cond.code yX2_isOn cX2_isOn 2 (some .boolean), Cond.methodLink RX2 32 ⟨"SecretBroker$Leased", "has", "(I)Z"⟩, Cond.sameMethod "SecretBroker$Leased" "SecretBroker$Leased" "has" "(I)Z", Cond.selects RX1 ⟨"SecretBroker$Leased", "has", "(I)Z"⟩ yX2_has, Cond.instanceMethod yX2_has, Cond.code yX2_has cX2_has 2 (some .boolean), Cond.selects RX6 ⟨"SecretBroker$Leased", "has", "(I)Z"⟩ yX2_has, Cond.selects RX6 ⟨"SecretBroker$Leased", "isOn", "(I)Z"⟩ yX2_isOn, Cond.selects RX6 ⟨"SecretBroker$Leased", "end", "(I)I"⟩ yX2_end, Cond.methodLink RX7 207 ⟨"SecretBroker$Credentials", "endByTime", "(I)I"⟩, Cond.sameMethod "SecretBroker$Credentials" "SecretBroker$Leased" "endByTime" "(I)I", Cond.selects RX1 ⟨"SecretBroker$Credentials", "endByTime", "(I)I"⟩ yX2_endByTime, Cond.methodLink RX7 208 yX7_endWhatHungOnTokens, Cond.instanceMethod yX7_endWhatHungOnTokens, Cond.selects RX7 yX7_endWhatHungOnTokens yX7_endWhatHungOnTokens, Cond.code yX7_endWhatHungOnTokens cX7_endWhatHungOnTokens 2 (some .int), Cond.methodLink RX7 292 yX6_endBelowEnded, Cond.instanceMethod yX6_endBelowEnded, Cond.selects RX6 yX6_endBelowEnded yX6_endBelowEnded]
def wsX7_pass_r3 : List Cond := [Cond.initialized RX6, Cond.code yX6_endBelowEnded cX6_endBelowEnded 3 (some .int), Cond.fieldLink RX6 9 "SecretBroker$Tokens" "parents" "[I", Cond.methodLink RX6 36 ⟨"SecretBroker$Tokens", "made", "()I"⟩, Cond.sameMethod "SecretBroker$Tokens" "SecretBroker$Leased" "made" "()I", Cond.selects RX6 ⟨"SecretBroker$Tokens", "made", "()I"⟩ yX2_made, Cond.instanceMethod yX2_made, Cond.code yX2_made cX2_made 1 (some .int), Cond.methodLink RX6 33 ⟨"SecretBroker$Tokens", "isOn", "(I)Z"⟩, Cond.sameMethod "SecretBroker$Tokens" "SecretBroker$Leased" "isOn" "(I)Z", Cond.selects RX6 ⟨"SecretBroker$Tokens", "isOn", "(I)Z"⟩ yX2_isOn, Cond.methodLink RX6 40 ⟨"SecretBroker$Tokens", "end", "(I)I"⟩, Cond.sameMethod "SecretBroker$Tokens" "SecretBroker$Leased" "end" "(I)I", Cond.selects RX6 ⟨"SecretBroker$Tokens", "end", "(I)I"⟩ yX2_end, Cond.methodLink RX7 295 yX1_endOfEnded, Cond.instanceMethod yX1_endOfEnded, Cond.selects RX1 yX1_endOfEnded yX1_endOfEnded, Cond.initialized RX1, Cond.code yX1_endOfEnded cX1_endOfEnded 4 (some .int), Cond.fieldLink RX1 9 "SecretBroker$Credentials" "owners" "[I", Cond.methodLink RX1 22 ⟨"SecretBroker$Credentials", "made", "()I"⟩, Cond.sameMethod "SecretBroker$Credentials" "SecretBroker$Leased" "made" "()I", Cond.selects RX1 ⟨"SecretBroker$Credentials", "made", "()I"⟩ yX2_made, Cond.methodLink RX1 39 ⟨"SecretBroker$Tokens", "isOn", "(I)Z"⟩]
def wsX7_pass_r4 : List Cond := [Cond.methodLink RX1 35 ⟨"SecretBroker$Credentials", "end", "(I)I"⟩, Cond.sameMethod "SecretBroker$Credentials" "SecretBroker$Leased" "end" "(I)I", Cond.selects RX1 ⟨"SecretBroker$Credentials", "end", "(I)I"⟩ yX2_end, Cond.methodLink RX7 140 yX0_write, Cond.instanceMethod yX0_write, Cond.selects RX0 yX0_write yX0_write, Cond.initialized RX0, Cond.code yX0_write cX0_write 7 none, Cond.fieldLink RX0 25 "SecretBroker$Audit" "count" "I", Cond.constantLong RX0 29 (17), Cond.fieldLink RX0 21 "SecretBroker$Audit" "sums" "[J", Cond.fieldLink RX0 9 "SecretBroker$Audit" "kinds" "[I", Cond.fieldLink RX0 15 "SecretBroker$Audit" "subjects" "[I", Cond.fieldLink RX0 18 "SecretBroker$Audit" "details" "[I", Cond.constantLong RX0 31 (31), Cond.constantLong RX0 33 (7), Cond.constantLong RX0 35 (5), Cond.constantLong RX0 37 (3), Cond.constantLong RX0 39 (1000003)]
def wsX7_pass : List Cond := .code yX7_pass cX7_pass 3 (some .int) :: ((wsX7_pass_r1 ++ (wsX7_pass_r2 ++ (wsX7_pass_r3 ++ wsX7_pass_r4))) ++ wsX70 ++ wsX10 ++ wsX60 ++ wsX00 ++ (vx_atS RX7 76 "java/lang/IllegalArgumentException" ["java/lang/RuntimeException", "java/lang/Exception"]).filter goodWord)
def wsX7_time : List Cond := .code yX7_time cX7_time 1 (some .int) :: ([.fieldLink RX7 44 "SecretBroker" "now" "I"] ++ wsX70)
def wsX7_nextEnd : List Cond := .code yX7_nextEnd cX7_nextEnd 3 (some .int) :: ([.fieldLink RX7 26 "SecretBroker" "tokenTable" "LSecretBroker$Tokens;", .fieldLink RX7 33 "SecretBroker" "credentialTable" "LSecretBroker$Credentials;", .methodLink RX7 215 Lib.Math.max.name, .static Lib.Math.max.name, .initialized "java/lang/Math", .code Lib.Math.max.name Lib.Math.max.code 2 (some .int), .methodLink RX7 220 Lib.Math.min.name, .static Lib.Math.min.name, .code Lib.Math.min.name Lib.Math.min.code 2 (some .int), .methodLink RX7 211 ⟨"SecretBroker$Tokens", "firstEnd", "()I"⟩, .sameMethod "SecretBroker$Tokens" "SecretBroker$Leased" "firstEnd" "()I", .selects RX6 ⟨"SecretBroker$Tokens", "firstEnd", "()I"⟩ yX2_firstEnd, .instanceMethod yX2_firstEnd, .initialized RX2, .code yX2_firstEnd cX2_firstEnd 3 (some .int), .fieldLink RX2 25 "SecretBroker$Leased" "made" "I", .fieldLink RX2 21 "SecretBroker$Leased" "on" "[Z", .fieldLink RX2 15 "SecretBroker$Leased" "ends" "[I", .methodLink RX7 214 ⟨"SecretBroker$Credentials", "firstEnd", "()I"⟩, .sameMethod "SecretBroker$Credentials" "SecretBroker$Leased" "firstEnd" "()I", .selects RX1 ⟨"SecretBroker$Credentials", "firstEnd", "()I"⟩ yX2_firstEnd] ++ wsX70 ++ wsX10 ++ wsX60)
def wsX7_entries : List Cond := .code yX7_entries cX7_entries 1 (some .int) :: ([.fieldLink RX7 40 "SecretBroker" "audit" "LSecretBroker$Audit;", .methodLink RX7 223 yX0_count, .instanceMethod yX0_count, .selects RX0 yX0_count yX0_count, .initialized RX0, .code yX0_count cX0_count 1 (some .int), .fieldLink RX0 25 "SecretBroker$Audit" "count" "I"] ++ wsX70 ++ wsX00)
def wsX7_checkEntry : List Cond := .code yX7_checkEntry cX7_checkEntry 2 none :: ([.classLink RX7 243 "java/lang/IndexOutOfBoundsException", .initialized "java/lang/IndexOutOfBoundsException", .fieldLink RX7 40 "SecretBroker" "audit" "LSecretBroker$Audit;", .methodLink RX7 254 yX0_has, .instanceMethod yX0_has, .selects RX0 yX0_has yX0_has, .initialized RX0, .code yX0_has cX0_has 2 (some .boolean), .fieldLink RX0 25 "SecretBroker$Audit" "count" "I"] ++ wsX70 ++ wsX00 ++ (vx_atS RX7 247 "java/lang/IndexOutOfBoundsException" ["java/lang/RuntimeException", "java/lang/Exception"]).filter goodWord)
def wsX7_kindOf : List Cond := .code yX7_kindOf cX7_kindOf 2 (some .int) :: ([.fieldLink RX7 40 "SecretBroker" "audit" "LSecretBroker$Audit;", .methodLink RX7 224 yX7_checkEntry, .instanceMethod yX7_checkEntry, .selects RX7 yX7_checkEntry yX7_checkEntry, .initialized RX7, .code yX7_checkEntry cX7_checkEntry 2 none, .classLink RX7 243 "java/lang/IndexOutOfBoundsException", .initialized "java/lang/IndexOutOfBoundsException", .methodLink RX7 254 yX0_has, .instanceMethod yX0_has, .selects RX0 yX0_has yX0_has, .initialized RX0, .code yX0_has cX0_has 2 (some .boolean), .fieldLink RX0 25 "SecretBroker$Audit" "count" "I", .methodLink RX7 227 yX0_kindAt, .instanceMethod yX0_kindAt, .selects RX0 yX0_kindAt yX0_kindAt, .code yX0_kindAt cX0_kindAt 2 (some .int), .fieldLink RX0 9 "SecretBroker$Audit" "kinds" "[I", .methodLink RX0 41 yX0_has] ++ wsX70 ++ wsX00 ++ (vx_atS RX7 247 "java/lang/IndexOutOfBoundsException" ["java/lang/RuntimeException", "java/lang/Exception"]).filter goodWord)
def wsX7_subjectOf : List Cond := .code yX7_subjectOf cX7_subjectOf 2 (some .int) :: ([.fieldLink RX7 40 "SecretBroker" "audit" "LSecretBroker$Audit;", .methodLink RX7 224 yX7_checkEntry, .instanceMethod yX7_checkEntry, .selects RX7 yX7_checkEntry yX7_checkEntry, .initialized RX7, .code yX7_checkEntry cX7_checkEntry 2 none, .classLink RX7 243 "java/lang/IndexOutOfBoundsException", .initialized "java/lang/IndexOutOfBoundsException", .methodLink RX7 254 yX0_has, .instanceMethod yX0_has, .selects RX0 yX0_has yX0_has, .initialized RX0, .code yX0_has cX0_has 2 (some .boolean), .fieldLink RX0 25 "SecretBroker$Audit" "count" "I", .methodLink RX7 230 yX0_subjectAt, .instanceMethod yX0_subjectAt, .selects RX0 yX0_subjectAt yX0_subjectAt, .code yX0_subjectAt cX0_subjectAt 2 (some .int), .fieldLink RX0 15 "SecretBroker$Audit" "subjects" "[I", .methodLink RX0 41 yX0_has] ++ wsX70 ++ wsX00 ++ (vx_atS RX7 247 "java/lang/IndexOutOfBoundsException" ["java/lang/RuntimeException", "java/lang/Exception"]).filter goodWord)
def wsX7_detailOf : List Cond := .code yX7_detailOf cX7_detailOf 2 (some .int) :: ([.fieldLink RX7 40 "SecretBroker" "audit" "LSecretBroker$Audit;", .methodLink RX7 224 yX7_checkEntry, .instanceMethod yX7_checkEntry, .selects RX7 yX7_checkEntry yX7_checkEntry, .initialized RX7, .code yX7_checkEntry cX7_checkEntry 2 none, .classLink RX7 243 "java/lang/IndexOutOfBoundsException", .initialized "java/lang/IndexOutOfBoundsException", .methodLink RX7 254 yX0_has, .instanceMethod yX0_has, .selects RX0 yX0_has yX0_has, .initialized RX0, .code yX0_has cX0_has 2 (some .boolean), .fieldLink RX0 25 "SecretBroker$Audit" "count" "I", .methodLink RX7 233 yX0_detailAt, .instanceMethod yX0_detailAt, .selects RX0 yX0_detailAt yX0_detailAt, .code yX0_detailAt cX0_detailAt 2 (some .int), .fieldLink RX0 18 "SecretBroker$Audit" "details" "[I", .methodLink RX0 41 yX0_has] ++ wsX70 ++ wsX00 ++ (vx_atS RX7 247 "java/lang/IndexOutOfBoundsException" ["java/lang/RuntimeException", "java/lang/Exception"]).filter goodWord)
def wsX7_sumOf : List Cond := .code yX7_sumOf cX7_sumOf 2 (some .long) :: ([.fieldLink RX7 40 "SecretBroker" "audit" "LSecretBroker$Audit;", .methodLink RX7 224 yX7_checkEntry, .instanceMethod yX7_checkEntry, .selects RX7 yX7_checkEntry yX7_checkEntry, .initialized RX7, .code yX7_checkEntry cX7_checkEntry 2 none, .classLink RX7 243 "java/lang/IndexOutOfBoundsException", .initialized "java/lang/IndexOutOfBoundsException", .methodLink RX7 254 yX0_has, .instanceMethod yX0_has, .selects RX0 yX0_has yX0_has, .initialized RX0, .code yX0_has cX0_has 2 (some .boolean), .fieldLink RX0 25 "SecretBroker$Audit" "count" "I", .methodLink RX7 236 yX0_sumAt, .instanceMethod yX0_sumAt, .selects RX0 yX0_sumAt yX0_sumAt, .code yX0_sumAt cX0_sumAt 2 (some .long), .fieldLink RX0 21 "SecretBroker$Audit" "sums" "[J", .methodLink RX0 41 yX0_has] ++ wsX70 ++ wsX00 ++ (vx_atS RX7 247 "java/lang/IndexOutOfBoundsException" ["java/lang/RuntimeException", "java/lang/Exception"]).filter goodWord)
def wsJ9_max_7cf53 : List Cond := .code yJ9_max_7cf53 cJ9_max_7cf53 2 (some .int) :: ([])
def wsJ9_min_7cf53 : List Cond := .code yJ9_min_7cf53 cJ9_min_7cf53 2 (some .int) :: ([])
def wsL_cell : List Cond := .code yL_cell cL_cell 2 (some .int) :: ([.constant RL 7 (1000308201), .constant RL 8 (751363375)])
def wsL_low : List Cond := .code yL_low cL_low 2 (some .int) :: ([.constant RL 9 (2147483647)])
def wsL_ten : List Cond := .code yL_ten cL_ten 3 (some .int) :: ([])
def wsL_digits : List Cond := .code yL_digits cL_digits 2 (some .int) :: ([.methodLink RL 10 yL_ten, .static yL_ten, .initialized RL, .code yL_ten cL_ten 3 (some .int)])
def wsL_isBelow : List Cond := .code yL_isBelow cL_isBelow 3 (some .boolean) :: ([.methodLink RL 16 yL_digits, .static yL_digits, .initialized RL, .code yL_digits cL_digits 2 (some .int), .methodLink RL 10 yL_ten, .static yL_ten, .code yL_ten cL_ten 3 (some .int)])
def wsL_fit : List Cond := .code yL_fit cL_fit 8 (some .int) :: ([.methodLink RL 16 yL_digits, .static yL_digits, .initialized RL, .code yL_digits cL_digits 2 (some .int), .methodLink RL 10 yL_ten, .static yL_ten, .code yL_ten cL_ten 3 (some .int)])
def wsL_can : List Cond := .code yL_can cL_can 12 (some .int) :: ([.methodLink RL 19 yL_fit, .static yL_fit, .initialized RL, .code yL_fit cL_fit 8 (some .int), .methodLink RL 16 yL_digits, .static yL_digits, .code yL_digits cL_digits 2 (some .int), .methodLink RL 10 yL_ten, .static yL_ten, .code yL_ten cL_ten 3 (some .int)])
def wsL_lives : List Cond := .code yL_lives cL_lives 4 (some .boolean) :: ([])
def wsL_works : List Cond := .code yL_works cL_works 4 (some .boolean) :: ([.methodLink RL 23 yL_lives, .static yL_lives, .initialized RL, .code yL_lives cL_lives 4 (some .boolean)])
def wsL_living : List Cond := .code yL_living cL_living 4 (some .int) :: ([.methodLink RL 23 yL_lives, .static yL_lives, .initialized RL, .code yL_lives cL_lives 4 (some .boolean)])
def wsL_working : List Cond := .code yL_working cL_working 5 (some .int) :: ([.methodLink RL 27 yL_works, .static yL_works, .initialized RL, .code yL_works cL_works 4 (some .boolean), .methodLink RL 23 yL_lives, .static yL_lives, .code yL_lives cL_lives 4 (some .boolean)])
def wsL_mountFor : List Cond := .code yL_mountFor cL_mountFor 5 (some .int) :: ([.methodLink RL 31 yL_isBelow, .static yL_isBelow, .initialized RL, .code yL_isBelow cL_isBelow 3 (some .boolean), .methodLink RL 16 yL_digits, .static yL_digits, .code yL_digits cL_digits 2 (some .int), .methodLink RL 10 yL_ten, .static yL_ten, .code yL_ten cL_ten 3 (some .int)])
def wsL_why : List Cond := .code yL_why cL_why 8 (some .int) :: ([.methodLink RL 23 yL_lives, .static yL_lives, .initialized RL, .code yL_lives cL_lives 4 (some .boolean), .methodLink RL 35 yL_mountFor, .static yL_mountFor, .code yL_mountFor cL_mountFor 5 (some .int), .methodLink RL 31 yL_isBelow, .static yL_isBelow, .code yL_isBelow cL_isBelow 3 (some .boolean), .methodLink RL 16 yL_digits, .static yL_digits, .code yL_digits cL_digits 2 (some .int), .methodLink RL 10 yL_ten, .static yL_ten, .code yL_ten cL_ten 3 (some .int), .methodLink RL 39 yL_can, .static yL_can, .code yL_can cL_can 12 (some .int), .methodLink RL 19 yL_fit, .static yL_fit, .code yL_fit cL_fit 8 (some .int)])
def wsL_refused_r1 : List Cond := [Cond.classLink RL 74 "java/lang/IllegalArgumentException", Cond.classLink RL 76 "java/lang/IllegalStateException", Cond.classLink RL 78 "java/lang/IndexOutOfBoundsException", Cond.methodLink RL 43 yX7_create, Cond.instanceMethod yX7_create, Cond.selects RX7 yX7_create yX7_create, Cond.initialized RX7, Cond.code yX7_create cX7_create 7 (some .int), Cond.classLink RX7 72 "java/lang/IllegalArgumentException", Cond.initialized "java/lang/IllegalArgumentException", Cond.classLink RX7 52 "java/lang/IllegalStateException", Cond.initialized "java/lang/IllegalStateException", Cond.fieldLink RX7 26 "SecretBroker" "tokenTable" "LSecretBroker$Tokens;", Cond.fieldLink RX7 44 "SecretBroker" "now" "I", Cond.fieldLink RX7 40 "SecretBroker" "audit" "LSecretBroker$Audit;", Cond.methodLink RX7 112 yX7_checkToken, Cond.instanceMethod yX7_checkToken, Cond.selects RX7 yX7_checkToken yX7_checkToken, Cond.code yX7_checkToken cX7_checkToken 2 none, Cond.classLink RX7 243 "java/lang/IndexOutOfBoundsException", Cond.initialized "java/lang/IndexOutOfBoundsException", Cond.methodLink RX7 248 ⟨"SecretBroker$Tokens", "has", "(I)Z"⟩, Cond.sameMethod "SecretBroker$Tokens" "SecretBroker$Leased" "has" "(I)Z", Cond.selects RX6 ⟨"SecretBroker$Tokens", "has", "(I)Z"⟩ yX2_has]
def wsL_refused_r2 : List Cond := [Cond.instanceMethod yX2_has, Cond.initialized RX2, Cond.code yX2_has cX2_has 2 (some .boolean), Cond.fieldLink RX2 25 "SecretBroker$Leased" "made" "I", Cond.methodLink RX7 115 yX7_mayHand, Cond.instanceMethod yX7_mayHand, Cond.selects RX7 yX7_mayHand yX7_mayHand, Cond.code yX7_mayHand cX7_mayHand 3 (some .boolean), Cond.fieldLink RX7 10 "SecretBroker" "policyTable" "LSecretBroker$Policies;", Cond.methodLink RX7 268 yX5_hasAll, Cond.instanceMethod yX5_hasAll, Cond.selects RX5 yX5_hasAll yX5_hasAll, Cond.initialized RX5, Cond.code yX5_hasAll cX5_hasAll 2 (some .boolean), Cond.fieldLink RX5 25 "SecretBroker$Policies" "count" "I", Cond.methodLink RX7 271 yX6_policiesAt, Cond.instanceMethod yX6_policiesAt, Cond.selects RX6 yX6_policiesAt yX6_policiesAt, Cond.initialized RX6, Cond.code yX6_policiesAt cX6_policiesAt 2 (some .int), Cond.fieldLink RX6 15 "SecretBroker$Tokens" "policySets" "[I", Cond.methodLink RX6 29 ⟨"SecretBroker$Tokens", "has", "(I)Z"⟩, Cond.methodLink RX7 101 yX7_checkLease, Cond.static yX7_checkLease]
def wsL_refused_r3 : List Cond := [Cond.code yX7_checkLease cX7_checkLease 2 none, Cond.methodLink RX7 77 yX7_checkRange, Cond.static yX7_checkRange, Cond.code yX7_checkRange cX7_checkRange 3 none, Cond.methodLink RX7 121 yX7_checkAliveToken, Cond.instanceMethod yX7_checkAliveToken, Cond.selects RX7 yX7_checkAliveToken yX7_checkAliveToken, Cond.code yX7_checkAliveToken cX7_checkAliveToken 2 none, Cond.methodLink RX7 158 ⟨"SecretBroker$Tokens", "isOn", "(I)Z"⟩, Cond.sameMethod "SecretBroker$Tokens" "SecretBroker$Leased" "isOn" "(I)Z", Cond.selects RX6 ⟨"SecretBroker$Tokens", "isOn", "(I)Z"⟩ yX2_isOn, Cond.instanceMethod yX2_isOn, Cond.code yX2_isOn cX2_isOn 2 (some .boolean), Cond.fieldLink RX2 21 "SecretBroker$Leased" "on" "[Z", Cond.methodLink RX2 32 ⟨"SecretBroker$Leased", "has", "(I)Z"⟩, Cond.sameMethod "SecretBroker$Leased" "SecretBroker$Leased" "has" "(I)Z", Cond.selects RX1 ⟨"SecretBroker$Leased", "has", "(I)Z"⟩ yX2_has, Cond.selects RX6 ⟨"SecretBroker$Leased", "has", "(I)Z"⟩ yX2_has, Cond.methodLink RX7 124 ⟨"SecretBroker$Tokens", "living", "()I"⟩, Cond.sameMethod "SecretBroker$Tokens" "SecretBroker$Leased" "living" "()I", Cond.selects RX6 ⟨"SecretBroker$Tokens", "living", "()I"⟩ yX2_living, Cond.instanceMethod yX2_living, Cond.code yX2_living cX2_living 1 (some .int), Cond.fieldLink RX2 29 "SecretBroker$Leased" "living" "I"]
def wsL_refused_r4 : List Cond := [Cond.methodLink RX7 127 ⟨"SecretBroker$Tokens", "isFull", "()Z"⟩, Cond.sameMethod "SecretBroker$Tokens" "SecretBroker$Leased" "isFull" "()Z", Cond.selects RX6 ⟨"SecretBroker$Tokens", "isFull", "()Z"⟩ yX2_isFull, Cond.instanceMethod yX2_isFull, Cond.code yX2_isFull cX2_isFull 1 (some .boolean), Cond.methodLink RX7 133 ⟨"SecretBroker$Tokens", "add", "(III)I"⟩, Cond.sameMethod "SecretBroker$Tokens" "SecretBroker$Leased" "add" "(III)I", Cond.selects RX6 ⟨"SecretBroker$Tokens", "add", "(III)I"⟩ yX2_add, Cond.instanceMethod yX2_add, Cond.code yX2_add cX2_add 4 (some .int), Cond.fieldLink RX2 9 "SecretBroker$Leased" "beginnings" "[I", Cond.fieldLink RX2 15 "SecretBroker$Leased" "ends" "[I", Cond.fieldLink RX2 18 "SecretBroker$Leased" "bounds" "[I", Cond.methodLink RX7 136 yX6_describe, Cond.instanceMethod yX6_describe, Cond.selects RX6 yX6_describe yX6_describe, Cond.code yX6_describe cX6_describe 5 none, Cond.fieldLink RX6 9 "SecretBroker$Tokens" "parents" "[I", Cond.fieldLink RX6 18 "SecretBroker$Tokens" "uses" "[I", Cond.methodLink RX7 140 yX0_write, Cond.instanceMethod yX0_write, Cond.selects RX0 yX0_write yX0_write, Cond.initialized RX0, Cond.code yX0_write cX0_write 7 none]
def wsL_refused_r5 : List Cond := [Cond.fieldLink RX0 25 "SecretBroker$Audit" "count" "I", Cond.constantLong RX0 29 (17), Cond.fieldLink RX0 21 "SecretBroker$Audit" "sums" "[J", Cond.fieldLink RX0 9 "SecretBroker$Audit" "kinds" "[I", Cond.fieldLink RX0 15 "SecretBroker$Audit" "subjects" "[I", Cond.fieldLink RX0 18 "SecretBroker$Audit" "details" "[I", Cond.constantLong RX0 31 (31), Cond.constantLong RX0 33 (7), Cond.constantLong RX0 35 (5), Cond.constantLong RX0 37 (3), Cond.constantLong RX0 39 (1000003), Cond.methodLink RL 49 yX7_renew, Cond.instanceMethod yX7_renew, Cond.selects RX7 yX7_renew yX7_renew, Cond.code yX7_renew cX7_renew 4 (some .int), Cond.methodLink RX7 143 yX7_checkEndingToken, Cond.instanceMethod yX7_checkEndingToken, Cond.selects RX7 yX7_checkEndingToken yX7_checkEndingToken, Cond.code yX7_checkEndingToken cX7_checkEndingToken 2 none, Cond.methodLink RX7 146 ⟨"SecretBroker$Tokens", "prolong", "(III)V"⟩, Cond.sameMethod "SecretBroker$Tokens" "SecretBroker$Leased" "prolong" "(III)V", Cond.selects RX6 ⟨"SecretBroker$Tokens", "prolong", "(III)V"⟩ yX2_prolong, Cond.instanceMethod yX2_prolong, Cond.code yX2_prolong cX2_prolong 5 none]
def wsL_refused_r6 : List Cond := [Cond.methodLink RX2 36 Lib.Math.min.name, Cond.static Lib.Math.min.name, Cond.initialized "java/lang/Math", Cond.code Lib.Math.min.name Lib.Math.min.code 2 (some .int), Cond.methodLink RX2 42 Lib.Math.max.name, Cond.static Lib.Math.max.name, Cond.code Lib.Math.max.name Lib.Math.max.code 2 (some .int), Cond.methodLink RX7 149 ⟨"SecretBroker$Tokens", "endAt", "(I)I"⟩, Cond.sameMethod "SecretBroker$Tokens" "SecretBroker$Leased" "endAt" "(I)I", Cond.selects RX6 ⟨"SecretBroker$Tokens", "endAt", "(I)I"⟩ yX2_endAt, Cond.instanceMethod yX2_endAt, Cond.code yX2_endAt cX2_endAt 2 (some .int), Cond.methodLink RL 53 yX7_revoke, Cond.instanceMethod yX7_revoke, Cond.selects RX7 yX7_revoke yX7_revoke, Cond.code yX7_revoke cX7_revoke 2 (some .int), Cond.methodLink RX7 152 yX7_endToken, Cond.instanceMethod yX7_endToken, Cond.selects RX7 yX7_endToken yX7_endToken, Cond.code yX7_endToken cX7_endToken 3 (some .int), Cond.methodLink RX7 289 ⟨"SecretBroker$Tokens", "end", "(I)I"⟩, Cond.sameMethod "SecretBroker$Tokens" "SecretBroker$Leased" "end" "(I)I", Cond.selects RX6 ⟨"SecretBroker$Tokens", "end", "(I)I"⟩ yX2_end, Cond.instanceMethod yX2_end]
def wsL_refused_r7 : List Cond := [Cond.code yX2_end cX2_end 2 (some .int), Cond.methodLink RX2 45 ⟨"SecretBroker$Leased", "isOn", "(I)Z"⟩, Cond.sameMethod "SecretBroker$Leased" "SecretBroker$Leased" "isOn" "(I)Z", Cond.selects RX1 ⟨"SecretBroker$Leased", "isOn", "(I)Z"⟩ yX2_isOn, Cond.selects RX6 ⟨"SecretBroker$Leased", "isOn", "(I)Z"⟩ yX2_isOn, Cond.methodLink RX7 208 yX7_endWhatHungOnTokens, Cond.instanceMethod yX7_endWhatHungOnTokens, Cond.selects RX7 yX7_endWhatHungOnTokens yX7_endWhatHungOnTokens, Cond.code yX7_endWhatHungOnTokens cX7_endWhatHungOnTokens 2 (some .int), Cond.fieldLink RX7 33 "SecretBroker" "credentialTable" "LSecretBroker$Credentials;", Cond.methodLink RX7 292 yX6_endBelowEnded, Cond.instanceMethod yX6_endBelowEnded, Cond.selects RX6 yX6_endBelowEnded yX6_endBelowEnded, Cond.code yX6_endBelowEnded cX6_endBelowEnded 3 (some .int), Cond.methodLink RX6 36 ⟨"SecretBroker$Tokens", "made", "()I"⟩, Cond.sameMethod "SecretBroker$Tokens" "SecretBroker$Leased" "made" "()I", Cond.selects RX6 ⟨"SecretBroker$Tokens", "made", "()I"⟩ yX2_made, Cond.instanceMethod yX2_made, Cond.code yX2_made cX2_made 1 (some .int), Cond.methodLink RX6 33 ⟨"SecretBroker$Tokens", "isOn", "(I)Z"⟩, Cond.methodLink RX6 40 ⟨"SecretBroker$Tokens", "end", "(I)I"⟩, Cond.methodLink RX7 295 yX1_endOfEnded, Cond.instanceMethod yX1_endOfEnded, Cond.selects RX1 yX1_endOfEnded yX1_endOfEnded]
def wsL_refused_r8 : List Cond := [Cond.initialized RX1, Cond.code yX1_endOfEnded cX1_endOfEnded 4 (some .int), Cond.fieldLink RX1 9 "SecretBroker$Credentials" "owners" "[I", Cond.methodLink RX1 22 ⟨"SecretBroker$Credentials", "made", "()I"⟩, Cond.sameMethod "SecretBroker$Credentials" "SecretBroker$Leased" "made" "()I", Cond.selects RX1 ⟨"SecretBroker$Credentials", "made", "()I"⟩ yX2_made, Cond.methodLink RX1 39 ⟨"SecretBroker$Tokens", "isOn", "(I)Z"⟩, Cond.methodLink RX1 35 ⟨"SecretBroker$Credentials", "end", "(I)I"⟩, Cond.sameMethod "SecretBroker$Credentials" "SecretBroker$Leased" "end" "(I)I", Cond.selects RX1 ⟨"SecretBroker$Credentials", "end", "(I)I"⟩ yX2_end, Cond.methodLink RL 56 yX7_revokeAlone, Cond.instanceMethod yX7_revokeAlone, Cond.selects RX7 yX7_revokeAlone yX7_revokeAlone, Cond.code yX7_revokeAlone cX7_revokeAlone 2 (some .int), Cond.methodLink RX7 155 yX6_freeChildren, Cond.instanceMethod yX6_freeChildren, Cond.selects RX6 yX6_freeChildren yX6_freeChildren, Cond.code yX6_freeChildren cX6_freeChildren 3 none, Cond.methodLink RL 59 yX7_renewCredential, Cond.instanceMethod yX7_renewCredential, Cond.selects RX7 yX7_renewCredential yX7_renewCredential, Cond.code yX7_renewCredential cX7_renewCredential 4 (some .int), Cond.methodLink RX7 187 yX7_checkCredential, Cond.instanceMethod yX7_checkCredential]
def wsL_refused_r9 : List Cond := [Cond.selects RX7 yX7_checkCredential yX7_checkCredential, Cond.code yX7_checkCredential cX7_checkCredential 2 none, Cond.methodLink RX7 251 ⟨"SecretBroker$Credentials", "has", "(I)Z"⟩, Cond.sameMethod "SecretBroker$Credentials" "SecretBroker$Leased" "has" "(I)Z", Cond.selects RX1 ⟨"SecretBroker$Credentials", "has", "(I)Z"⟩ yX2_has, Cond.methodLink RX7 190 ⟨"SecretBroker$Credentials", "isOn", "(I)Z"⟩, Cond.sameMethod "SecretBroker$Credentials" "SecretBroker$Leased" "isOn" "(I)Z", Cond.selects RX1 ⟨"SecretBroker$Credentials", "isOn", "(I)Z"⟩ yX2_isOn, Cond.methodLink RX7 193 ⟨"SecretBroker$Credentials", "prolong", "(III)V"⟩, Cond.sameMethod "SecretBroker$Credentials" "SecretBroker$Leased" "prolong" "(III)V", Cond.selects RX1 ⟨"SecretBroker$Credentials", "prolong", "(III)V"⟩ yX2_prolong, Cond.methodLink RX7 194 ⟨"SecretBroker$Credentials", "endAt", "(I)I"⟩, Cond.sameMethod "SecretBroker$Credentials" "SecretBroker$Leased" "endAt" "(I)I", Cond.selects RX1 ⟨"SecretBroker$Credentials", "endAt", "(I)I"⟩ yX2_endAt, Cond.methodLink RX7 195 yX1_ownerAt, Cond.instanceMethod yX1_ownerAt, Cond.selects RX1 yX1_ownerAt yX1_ownerAt, Cond.code yX1_ownerAt cX1_ownerAt 2 (some .int), Cond.methodLink RX1 18 ⟨"SecretBroker$Credentials", "has", "(I)Z"⟩, Cond.methodLink RL 62 yX7_credentialsOf, Cond.instanceMethod yX7_credentialsOf, Cond.selects RX7 yX7_credentialsOf yX7_credentialsOf, Cond.code yX7_credentialsOf cX7_credentialsOf 2 (some .int), Cond.methodLink RX7 201 yX1_livingOf]
def wsL_refused_r10 : List Cond := [Cond.instanceMethod yX1_livingOf, Cond.selects RX1 yX1_livingOf yX1_livingOf, Cond.code yX1_livingOf cX1_livingOf 4 (some .int), Cond.methodLink RX1 26 ⟨"SecretBroker$Credentials", "isOn", "(I)Z"⟩, Cond.methodLink RL 65 yX7_endOfCredential, Cond.instanceMethod yX7_endOfCredential, Cond.selects RX7 yX7_endOfCredential yX7_endOfCredential, Cond.code yX7_endOfCredential cX7_endOfCredential 2 (some .int), Cond.methodLink RL 68 yX7_request, Cond.instanceMethod yX7_request, Cond.selects RX7 yX7_request yX7_request, Cond.code yX7_request cX7_request 5 (some .int), Cond.methodLink RX7 98 yX7_checkPath, Cond.static yX7_checkPath, Cond.code yX7_checkPath cX7_checkPath 1 none, Cond.methodLink RX7 261 yX4_isPath, Cond.static yX4_isPath, Cond.initialized RX4, Cond.code yX4_isPath cX4_isPath 1 (some .boolean), Cond.methodLink RX4 9 yX4_hasDigits, Cond.static yX4_hasDigits, Cond.code yX4_hasDigits cX4_hasDigits 5 (some .boolean), Cond.constant RX4 15 (999999), Cond.methodLink RX7 174 yX7_reasonAgainst]
def wsL_refused_r11 : List Cond := [Cond.instanceMethod yX7_reasonAgainst, Cond.selects RX7 yX7_reasonAgainst yX7_reasonAgainst, Cond.code yX7_reasonAgainst cX7_reasonAgainst 3 (some .int), Cond.fieldLink RX7 19 "SecretBroker" "mountTable" "LSecretBroker$Mounts;", Cond.methodLink RX7 164 yX6_usesAt, Cond.instanceMethod yX6_usesAt, Cond.selects RX6 yX6_usesAt yX6_usesAt, Cond.code yX6_usesAt cX6_usesAt 2 (some .int), Cond.methodLink RX7 277 yX3_nearest, Cond.instanceMethod yX3_nearest, Cond.selects RX3 yX3_nearest yX3_nearest, Cond.initialized RX3, Cond.code yX3_nearest cX3_nearest 4 (some .int), Cond.fieldLink RX3 21 "SecretBroker$Mounts" "count" "I", Cond.fieldLink RX3 9 "SecretBroker$Mounts" "paths" "[I", Cond.methodLink RX3 29 yX4_isBelow, Cond.static yX4_isBelow, Cond.code yX4_isBelow cX4_isBelow 3 (some .boolean), Cond.methodLink RX4 16 yX4_length, Cond.static yX4_length, Cond.code yX4_length cX4_length 4 (some .int), Cond.methodLink RX4 20 yX4_withoutLast, Cond.static yX4_withoutLast, Cond.code yX4_withoutLast cX4_withoutLast 4 (some .int)]
def wsL_refused_r12 : List Cond := [Cond.methodLink RX7 170 yX7_capabilitiesAt, Cond.instanceMethod yX7_capabilitiesAt, Cond.selects RX7 yX7_capabilitiesAt yX7_capabilitiesAt, Cond.code yX7_capabilitiesAt cX7_capabilitiesAt 4 (some .int), Cond.methodLink RX7 274 yX5_together, Cond.instanceMethod yX5_together, Cond.selects RX5 yX5_together yX5_together, Cond.code yX5_together cX5_together 5 (some .int), Cond.methodLink RX5 44 yX5_decided, Cond.instanceMethod yX5_decided, Cond.selects RX5 yX5_decided yX5_decided, Cond.code yX5_decided cX5_decided 7 (some .int), Cond.fieldLink RX5 15 "SecretBroker$Policies" "patterns" "[I", Cond.fieldLink RX5 18 "SecretBroker$Policies" "opens" "[Z", Cond.fieldLink RX5 22 "SecretBroker$Policies" "sets" "[I", Cond.methodLink RX5 33 yX5_rulesOf, Cond.instanceMethod yX5_rulesOf, Cond.selects RX5 yX5_rulesOf yX5_rulesOf, Cond.code yX5_rulesOf cX5_rulesOf 2 (some .int), Cond.fieldLink RX5 9 "SecretBroker$Policies" "ruleCounts" "[I", Cond.methodLink RX5 29 yX5_has, Cond.instanceMethod yX5_has, Cond.selects RX5 yX5_has yX5_has, Cond.code yX5_has cX5_has 2 (some .boolean)]
def wsL_refused_r13 : List Cond := [Cond.methodLink RX5 48 yX4_fits, Cond.static yX4_fits, Cond.code yX4_fits cX4_fits 8 (some .boolean), Cond.methodLink RX5 54 yX5_goesAhead, Cond.instanceMethod yX5_goesAhead, Cond.selects RX5 yX5_goesAhead yX5_goesAhead, Cond.code yX5_goesAhead cX5_goesAhead 4 (some .boolean), Cond.methodLink RX5 58 yX4_length, Cond.methodLink RX7 177 ⟨"SecretBroker$Credentials", "living", "()I"⟩, Cond.sameMethod "SecretBroker$Credentials" "SecretBroker$Leased" "living" "()I", Cond.selects RX1 ⟨"SecretBroker$Credentials", "living", "()I"⟩ yX2_living, Cond.methodLink RX7 178 ⟨"SecretBroker$Credentials", "isFull", "()Z"⟩, Cond.sameMethod "SecretBroker$Credentials" "SecretBroker$Leased" "isFull" "()Z", Cond.selects RX1 ⟨"SecretBroker$Credentials", "isFull", "()Z"⟩ yX2_isFull, Cond.methodLink RX7 181 yX6_takeUse, Cond.instanceMethod yX6_takeUse, Cond.selects RX6 yX6_takeUse yX6_takeUse, Cond.code yX6_takeUse cX6_takeUse 2 none, Cond.methodLink RX7 184 yX7_give, Cond.instanceMethod yX7_give, Cond.selects RX7 yX7_give yX7_give, Cond.code yX7_give cX7_give 6 (some .int), Cond.methodLink RX7 280 yX3_minutesAt, Cond.instanceMethod yX3_minutesAt]
def wsL_refused_r14 : List Cond := [Cond.selects RX3 yX3_minutesAt yX3_minutesAt, Cond.code yX3_minutesAt cX3_minutesAt 2 (some .int), Cond.fieldLink RX3 15 "SecretBroker$Mounts" "minutes" "[I", Cond.methodLink RX3 35 yX3_has, Cond.instanceMethod yX3_has, Cond.selects RX3 yX3_has yX3_has, Cond.code yX3_has cX3_has 2 (some .boolean), Cond.methodLink RX7 283 yX3_boundAt, Cond.instanceMethod yX3_boundAt, Cond.selects RX3 yX3_boundAt yX3_boundAt, Cond.code yX3_boundAt cX3_boundAt 2 (some .int), Cond.fieldLink RX3 18 "SecretBroker$Mounts" "bounds" "[I", Cond.methodLink RX7 286 ⟨"SecretBroker$Credentials", "add", "(III)I"⟩, Cond.sameMethod "SecretBroker$Credentials" "SecretBroker$Leased" "add" "(III)I", Cond.selects RX1 ⟨"SecretBroker$Credentials", "add", "(III)I"⟩ yX2_add, Cond.methodLink RX7 287 yX1_describe, Cond.instanceMethod yX1_describe, Cond.selects RX1 yX1_describe yX1_describe, Cond.code yX1_describe cX1_describe 4 none, Cond.fieldLink RX1 15 "SecretBroker$Credentials" "paths" "[I", Cond.methodLink RL 71 yX7_kindOf, Cond.instanceMethod yX7_kindOf, Cond.selects RX7 yX7_kindOf yX7_kindOf, Cond.code yX7_kindOf cX7_kindOf 2 (some .int)]
def wsL_refused_r15 : List Cond := [Cond.methodLink RX7 224 yX7_checkEntry, Cond.instanceMethod yX7_checkEntry, Cond.selects RX7 yX7_checkEntry yX7_checkEntry, Cond.code yX7_checkEntry cX7_checkEntry 2 none, Cond.methodLink RX7 254 yX0_has, Cond.instanceMethod yX0_has, Cond.selects RX0 yX0_has yX0_has, Cond.code yX0_has cX0_has 2 (some .boolean), Cond.methodLink RX7 227 yX0_kindAt, Cond.instanceMethod yX0_kindAt, Cond.selects RX0 yX0_kindAt yX0_kindAt, Cond.code yX0_kindAt cX0_kindAt 2 (some .int), Cond.methodLink RX0 41 yX0_has]
def wsL_refused : List Cond := .codeWith yL_refused cL_refused 6 (some .int) [(0, 121, 122, 74), (0, 121, 126, 76), (0, 121, 130, 78)] :: ((wsL_refused_r1 ++ (wsL_refused_r2 ++ (wsL_refused_r3 ++ (wsL_refused_r4 ++ (wsL_refused_r5 ++ (wsL_refused_r6 ++ (wsL_refused_r7 ++ (wsL_refused_r8 ++ (wsL_refused_r9 ++ (wsL_refused_r10 ++ (wsL_refused_r11 ++ (wsL_refused_r12 ++ (wsL_refused_r13 ++ (wsL_refused_r14 ++ wsL_refused_r15)))))))))))))) ++ wsX70 ++ wsX10 ++ wsX60 ++ wsX50 ++ wsX00 ++ wsX30 ++ (vx_atS RX7 76 "java/lang/IllegalArgumentException" ["java/lang/RuntimeException", "java/lang/Exception"]).filter goodWord ++ (vx_atS RX7 56 "java/lang/IllegalStateException" ["java/lang/RuntimeException", "java/lang/Exception"]).filter goodWord ++ (vx_atS RX7 247 "java/lang/IndexOutOfBoundsException" ["java/lang/RuntimeException", "java/lang/Exception"]).filter goodWord)
def wsL_writes_r1 : List Cond := [Cond.constantLong RL 80 (31), Cond.constantLong RL 82 (1000003), Cond.methodLink RL 84 yX7_entries, Cond.instanceMethod yX7_entries, Cond.selects RX7 yX7_entries yX7_entries, Cond.initialized RX7, Cond.code yX7_entries cX7_entries 1 (some .int), Cond.fieldLink RX7 40 "SecretBroker" "audit" "LSecretBroker$Audit;", Cond.methodLink RX7 223 yX0_count, Cond.instanceMethod yX0_count, Cond.selects RX0 yX0_count yX0_count, Cond.initialized RX0, Cond.code yX0_count cX0_count 1 (some .int), Cond.fieldLink RX0 25 "SecretBroker$Audit" "count" "I", Cond.methodLink RL 71 yX7_kindOf, Cond.instanceMethod yX7_kindOf, Cond.selects RX7 yX7_kindOf yX7_kindOf, Cond.code yX7_kindOf cX7_kindOf 2 (some .int), Cond.methodLink RX7 224 yX7_checkEntry, Cond.instanceMethod yX7_checkEntry, Cond.selects RX7 yX7_checkEntry yX7_checkEntry, Cond.code yX7_checkEntry cX7_checkEntry 2 none, Cond.classLink RX7 243 "java/lang/IndexOutOfBoundsException", Cond.initialized "java/lang/IndexOutOfBoundsException"]
def wsL_writes_r2 : List Cond := [Cond.methodLink RX7 254 yX0_has, Cond.instanceMethod yX0_has, Cond.selects RX0 yX0_has yX0_has, Cond.code yX0_has cX0_has 2 (some .boolean), Cond.methodLink RX7 227 yX0_kindAt, Cond.instanceMethod yX0_kindAt, Cond.selects RX0 yX0_kindAt yX0_kindAt, Cond.code yX0_kindAt cX0_kindAt 2 (some .int), Cond.fieldLink RX0 9 "SecretBroker$Audit" "kinds" "[I", Cond.methodLink RX0 41 yX0_has, Cond.methodLink RL 88 yX7_subjectOf, Cond.instanceMethod yX7_subjectOf, Cond.selects RX7 yX7_subjectOf yX7_subjectOf, Cond.code yX7_subjectOf cX7_subjectOf 2 (some .int), Cond.methodLink RX7 230 yX0_subjectAt, Cond.instanceMethod yX0_subjectAt, Cond.selects RX0 yX0_subjectAt yX0_subjectAt, Cond.code yX0_subjectAt cX0_subjectAt 2 (some .int), Cond.fieldLink RX0 15 "SecretBroker$Audit" "subjects" "[I", Cond.methodLink RL 91 yX7_detailOf, Cond.instanceMethod yX7_detailOf, Cond.selects RX7 yX7_detailOf yX7_detailOf, Cond.code yX7_detailOf cX7_detailOf 2 (some .int), Cond.methodLink RX7 233 yX0_detailAt]
def wsL_writes_r3 : List Cond := [Cond.instanceMethod yX0_detailAt, Cond.selects RX0 yX0_detailAt yX0_detailAt, Cond.code yX0_detailAt cX0_detailAt 2 (some .int), Cond.fieldLink RX0 18 "SecretBroker$Audit" "details" "[I", Cond.methodLink RL 94 yX7_sumOf, Cond.instanceMethod yX7_sumOf, Cond.selects RX7 yX7_sumOf yX7_sumOf, Cond.code yX7_sumOf cX7_sumOf 2 (some .long), Cond.methodLink RX7 236 yX0_sumAt, Cond.instanceMethod yX0_sumAt, Cond.selects RX0 yX0_sumAt yX0_sumAt, Cond.code yX0_sumAt cX0_sumAt 2 (some .long), Cond.fieldLink RX0 21 "SecretBroker$Audit" "sums" "[J"]
def wsL_writes : List Cond := .code yL_writes cL_writes 7 (some .boolean) :: ((wsL_writes_r1 ++ (wsL_writes_r2 ++ wsL_writes_r3)) ++ wsX70 ++ wsX00 ++ (vx_atS RX7 247 "java/lang/IndexOutOfBoundsException" ["java/lang/RuntimeException", "java/lang/Exception"]).filter goodWord)
def wsL_same_r1 : List Cond := [Cond.methodLink RL 23 yL_lives, Cond.static yL_lives, Cond.initialized RL, Cond.code yL_lives cL_lives 4 (some .boolean), Cond.methodLink RL 98 yX7_isAlive, Cond.instanceMethod yX7_isAlive, Cond.selects RX7 yX7_isAlive yX7_isAlive, Cond.initialized RX7, Cond.code yX7_isAlive cX7_isAlive 2 (some .boolean), Cond.fieldLink RX7 26 "SecretBroker" "tokenTable" "LSecretBroker$Tokens;", Cond.methodLink RX7 112 yX7_checkToken, Cond.instanceMethod yX7_checkToken, Cond.selects RX7 yX7_checkToken yX7_checkToken, Cond.code yX7_checkToken cX7_checkToken 2 none, Cond.classLink RX7 243 "java/lang/IndexOutOfBoundsException", Cond.initialized "java/lang/IndexOutOfBoundsException", Cond.methodLink RX7 248 ⟨"SecretBroker$Tokens", "has", "(I)Z"⟩, Cond.sameMethod "SecretBroker$Tokens" "SecretBroker$Leased" "has" "(I)Z", Cond.selects RX6 ⟨"SecretBroker$Tokens", "has", "(I)Z"⟩ yX2_has, Cond.instanceMethod yX2_has, Cond.initialized RX2, Cond.code yX2_has cX2_has 2 (some .boolean), Cond.fieldLink RX2 25 "SecretBroker$Leased" "made" "I", Cond.methodLink RX7 158 ⟨"SecretBroker$Tokens", "isOn", "(I)Z"⟩]
def wsL_same_r2 : List Cond := [Cond.sameMethod "SecretBroker$Tokens" "SecretBroker$Leased" "isOn" "(I)Z", Cond.selects RX6 ⟨"SecretBroker$Tokens", "isOn", "(I)Z"⟩ yX2_isOn, Cond.instanceMethod yX2_isOn, Cond.code yX2_isOn cX2_isOn 2 (some .boolean), Cond.fieldLink RX2 21 "SecretBroker$Leased" "on" "[Z", Cond.methodLink RX2 32 ⟨"SecretBroker$Leased", "has", "(I)Z"⟩, Cond.sameMethod "SecretBroker$Leased" "SecretBroker$Leased" "has" "(I)Z", Cond.selects RX1 ⟨"SecretBroker$Leased", "has", "(I)Z"⟩ yX2_has, Cond.selects RX6 ⟨"SecretBroker$Leased", "has", "(I)Z"⟩ yX2_has, Cond.methodLink RL 102 yX7_parentOf, Cond.instanceMethod yX7_parentOf, Cond.selects RX7 yX7_parentOf yX7_parentOf, Cond.code yX7_parentOf cX7_parentOf 2 (some .int), Cond.methodLink RX7 161 yX6_parentAt, Cond.instanceMethod yX6_parentAt, Cond.selects RX6 yX6_parentAt yX6_parentAt, Cond.initialized RX6, Cond.code yX6_parentAt cX6_parentAt 2 (some .int), Cond.fieldLink RX6 9 "SecretBroker$Tokens" "parents" "[I", Cond.methodLink RX6 29 ⟨"SecretBroker$Tokens", "has", "(I)Z"⟩, Cond.methodLink RL 105 yX7_endOf, Cond.instanceMethod yX7_endOf, Cond.selects RX7 yX7_endOf yX7_endOf, Cond.code yX7_endOf cX7_endOf 2 (some .int)]
def wsL_same_r3 : List Cond := [Cond.methodLink RX7 149 ⟨"SecretBroker$Tokens", "endAt", "(I)I"⟩, Cond.sameMethod "SecretBroker$Tokens" "SecretBroker$Leased" "endAt" "(I)I", Cond.selects RX6 ⟨"SecretBroker$Tokens", "endAt", "(I)I"⟩ yX2_endAt, Cond.instanceMethod yX2_endAt, Cond.code yX2_endAt cX2_endAt 2 (some .int), Cond.fieldLink RX2 15 "SecretBroker$Leased" "ends" "[I", Cond.methodLink RL 108 yX7_usesLeft, Cond.instanceMethod yX7_usesLeft, Cond.selects RX7 yX7_usesLeft yX7_usesLeft, Cond.code yX7_usesLeft cX7_usesLeft 2 (some .int), Cond.methodLink RX7 164 yX6_usesAt, Cond.instanceMethod yX6_usesAt, Cond.selects RX6 yX6_usesAt yX6_usesAt, Cond.code yX6_usesAt cX6_usesAt 2 (some .int), Cond.fieldLink RX6 18 "SecretBroker$Tokens" "uses" "[I", Cond.methodLink RL 27 yL_works, Cond.static yL_works, Cond.code yL_works cL_works 4 (some .boolean), Cond.methodLink RL 111 yX7_works, Cond.instanceMethod yX7_works, Cond.selects RX7 yX7_works yX7_works, Cond.code yX7_works cX7_works 2 (some .boolean), Cond.fieldLink RX7 33 "SecretBroker" "credentialTable" "LSecretBroker$Credentials;", Cond.methodLink RX7 187 yX7_checkCredential]
def wsL_same_r4 : List Cond := [Cond.instanceMethod yX7_checkCredential, Cond.selects RX7 yX7_checkCredential yX7_checkCredential, Cond.code yX7_checkCredential cX7_checkCredential 2 none, Cond.methodLink RX7 251 ⟨"SecretBroker$Credentials", "has", "(I)Z"⟩, Cond.sameMethod "SecretBroker$Credentials" "SecretBroker$Leased" "has" "(I)Z", Cond.selects RX1 ⟨"SecretBroker$Credentials", "has", "(I)Z"⟩ yX2_has, Cond.methodLink RX7 190 ⟨"SecretBroker$Credentials", "isOn", "(I)Z"⟩, Cond.sameMethod "SecretBroker$Credentials" "SecretBroker$Leased" "isOn" "(I)Z", Cond.selects RX1 ⟨"SecretBroker$Credentials", "isOn", "(I)Z"⟩ yX2_isOn, Cond.methodLink RL 65 yX7_endOfCredential, Cond.instanceMethod yX7_endOfCredential, Cond.selects RX7 yX7_endOfCredential yX7_endOfCredential, Cond.code yX7_endOfCredential cX7_endOfCredential 2 (some .int), Cond.methodLink RX7 194 ⟨"SecretBroker$Credentials", "endAt", "(I)I"⟩, Cond.sameMethod "SecretBroker$Credentials" "SecretBroker$Leased" "endAt" "(I)I", Cond.selects RX1 ⟨"SecretBroker$Credentials", "endAt", "(I)I"⟩ yX2_endAt, Cond.methodLink RL 113 yL_low, Cond.static yL_low, Cond.code yL_low cL_low 2 (some .int), Cond.constant RL 9 (2147483647), Cond.methodLink RL 116 yX7_below, Cond.instanceMethod yX7_below, Cond.selects RX7 yX7_below yX7_below, Cond.code yX7_below cX7_below 2 (some .int)]
def wsL_same_r5 : List Cond := [Cond.methodLink RX7 167 yX6_livingBelow, Cond.instanceMethod yX6_livingBelow, Cond.selects RX6 yX6_livingBelow yX6_livingBelow, Cond.code yX6_livingBelow cX6_livingBelow 4 (some .int), Cond.methodLink RX6 36 ⟨"SecretBroker$Tokens", "made", "()I"⟩, Cond.sameMethod "SecretBroker$Tokens" "SecretBroker$Leased" "made" "()I", Cond.selects RX6 ⟨"SecretBroker$Tokens", "made", "()I"⟩ yX2_made, Cond.instanceMethod yX2_made, Cond.code yX2_made cX2_made 1 (some .int), Cond.methodLink RX6 33 ⟨"SecretBroker$Tokens", "isOn", "(I)Z"⟩, Cond.methodLink RX6 44 yX6_hangsBelow, Cond.instanceMethod yX6_hangsBelow, Cond.selects RX6 yX6_hangsBelow yX6_hangsBelow, Cond.code yX6_hangsBelow cX6_hangsBelow 5 (some .boolean), Cond.methodLink RX6 48 yX6_parentAt, Cond.methodLink RL 62 yX7_credentialsOf, Cond.instanceMethod yX7_credentialsOf, Cond.selects RX7 yX7_credentialsOf yX7_credentialsOf, Cond.code yX7_credentialsOf cX7_credentialsOf 2 (some .int), Cond.methodLink RX7 201 yX1_livingOf, Cond.instanceMethod yX1_livingOf, Cond.selects RX1 yX1_livingOf yX1_livingOf, Cond.initialized RX1, Cond.code yX1_livingOf cX1_livingOf 4 (some .int)]
def wsL_same_r6 : List Cond := [Cond.fieldLink RX1 9 "SecretBroker$Credentials" "owners" "[I", Cond.methodLink RX1 22 ⟨"SecretBroker$Credentials", "made", "()I"⟩, Cond.sameMethod "SecretBroker$Credentials" "SecretBroker$Leased" "made" "()I", Cond.selects RX1 ⟨"SecretBroker$Credentials", "made", "()I"⟩ yX2_made, Cond.methodLink RX1 26 ⟨"SecretBroker$Credentials", "isOn", "(I)Z"⟩, Cond.methodLink RL 119 yL_refused, Cond.static yL_refused, Cond.codeWith yL_refused cL_refused 6 (some .int) [(0, 121, 122, 74), (0, 121, 126, 76), (0, 121, 130, 78)], Cond.classLink RL 74 "java/lang/IllegalArgumentException", Cond.classLink RL 76 "java/lang/IllegalStateException", Cond.classLink RL 78 "java/lang/IndexOutOfBoundsException", Cond.methodLink RL 43 yX7_create, Cond.instanceMethod yX7_create, Cond.selects RX7 yX7_create yX7_create, Cond.code yX7_create cX7_create 7 (some .int), Cond.classLink RX7 72 "java/lang/IllegalArgumentException", Cond.initialized "java/lang/IllegalArgumentException", Cond.classLink RX7 52 "java/lang/IllegalStateException", Cond.initialized "java/lang/IllegalStateException", Cond.fieldLink RX7 44 "SecretBroker" "now" "I", Cond.fieldLink RX7 40 "SecretBroker" "audit" "LSecretBroker$Audit;", Cond.methodLink RX7 115 yX7_mayHand, Cond.instanceMethod yX7_mayHand, Cond.selects RX7 yX7_mayHand yX7_mayHand]
def wsL_same_r7 : List Cond := [Cond.code yX7_mayHand cX7_mayHand 3 (some .boolean), Cond.fieldLink RX7 10 "SecretBroker" "policyTable" "LSecretBroker$Policies;", Cond.methodLink RX7 268 yX5_hasAll, Cond.instanceMethod yX5_hasAll, Cond.selects RX5 yX5_hasAll yX5_hasAll, Cond.initialized RX5, Cond.code yX5_hasAll cX5_hasAll 2 (some .boolean), Cond.fieldLink RX5 25 "SecretBroker$Policies" "count" "I", Cond.methodLink RX7 271 yX6_policiesAt, Cond.instanceMethod yX6_policiesAt, Cond.selects RX6 yX6_policiesAt yX6_policiesAt, Cond.code yX6_policiesAt cX6_policiesAt 2 (some .int), Cond.fieldLink RX6 15 "SecretBroker$Tokens" "policySets" "[I", Cond.methodLink RX7 101 yX7_checkLease, Cond.static yX7_checkLease, Cond.code yX7_checkLease cX7_checkLease 2 none, Cond.methodLink RX7 77 yX7_checkRange, Cond.static yX7_checkRange, Cond.code yX7_checkRange cX7_checkRange 3 none, Cond.methodLink RX7 121 yX7_checkAliveToken, Cond.instanceMethod yX7_checkAliveToken, Cond.selects RX7 yX7_checkAliveToken yX7_checkAliveToken, Cond.code yX7_checkAliveToken cX7_checkAliveToken 2 none, Cond.methodLink RX7 124 ⟨"SecretBroker$Tokens", "living", "()I"⟩]
def wsL_same_r8 : List Cond := [Cond.sameMethod "SecretBroker$Tokens" "SecretBroker$Leased" "living" "()I", Cond.selects RX6 ⟨"SecretBroker$Tokens", "living", "()I"⟩ yX2_living, Cond.instanceMethod yX2_living, Cond.code yX2_living cX2_living 1 (some .int), Cond.fieldLink RX2 29 "SecretBroker$Leased" "living" "I", Cond.methodLink RX7 127 ⟨"SecretBroker$Tokens", "isFull", "()Z"⟩, Cond.sameMethod "SecretBroker$Tokens" "SecretBroker$Leased" "isFull" "()Z", Cond.selects RX6 ⟨"SecretBroker$Tokens", "isFull", "()Z"⟩ yX2_isFull, Cond.instanceMethod yX2_isFull, Cond.code yX2_isFull cX2_isFull 1 (some .boolean), Cond.methodLink RX7 133 ⟨"SecretBroker$Tokens", "add", "(III)I"⟩, Cond.sameMethod "SecretBroker$Tokens" "SecretBroker$Leased" "add" "(III)I", Cond.selects RX6 ⟨"SecretBroker$Tokens", "add", "(III)I"⟩ yX2_add, Cond.instanceMethod yX2_add, Cond.code yX2_add cX2_add 4 (some .int), Cond.fieldLink RX2 9 "SecretBroker$Leased" "beginnings" "[I", Cond.fieldLink RX2 18 "SecretBroker$Leased" "bounds" "[I", Cond.methodLink RX7 136 yX6_describe, Cond.instanceMethod yX6_describe, Cond.selects RX6 yX6_describe yX6_describe, Cond.code yX6_describe cX6_describe 5 none, Cond.methodLink RX7 140 yX0_write, Cond.instanceMethod yX0_write, Cond.selects RX0 yX0_write yX0_write]
def wsL_same_r9 : List Cond := [Cond.initialized RX0, Cond.code yX0_write cX0_write 7 none, Cond.fieldLink RX0 25 "SecretBroker$Audit" "count" "I", Cond.constantLong RX0 29 (17), Cond.fieldLink RX0 21 "SecretBroker$Audit" "sums" "[J", Cond.fieldLink RX0 9 "SecretBroker$Audit" "kinds" "[I", Cond.fieldLink RX0 15 "SecretBroker$Audit" "subjects" "[I", Cond.fieldLink RX0 18 "SecretBroker$Audit" "details" "[I", Cond.constantLong RX0 31 (31), Cond.constantLong RX0 33 (7), Cond.constantLong RX0 35 (5), Cond.constantLong RX0 37 (3), Cond.constantLong RX0 39 (1000003), Cond.methodLink RL 49 yX7_renew, Cond.instanceMethod yX7_renew, Cond.selects RX7 yX7_renew yX7_renew, Cond.code yX7_renew cX7_renew 4 (some .int), Cond.methodLink RX7 143 yX7_checkEndingToken, Cond.instanceMethod yX7_checkEndingToken, Cond.selects RX7 yX7_checkEndingToken yX7_checkEndingToken, Cond.code yX7_checkEndingToken cX7_checkEndingToken 2 none, Cond.methodLink RX7 146 ⟨"SecretBroker$Tokens", "prolong", "(III)V"⟩, Cond.sameMethod "SecretBroker$Tokens" "SecretBroker$Leased" "prolong" "(III)V", Cond.selects RX6 ⟨"SecretBroker$Tokens", "prolong", "(III)V"⟩ yX2_prolong]
def wsL_same_r10 : List Cond := [Cond.instanceMethod yX2_prolong, Cond.code yX2_prolong cX2_prolong 5 none, Cond.methodLink RX2 36 Lib.Math.min.name, Cond.static Lib.Math.min.name, Cond.initialized "java/lang/Math", Cond.code Lib.Math.min.name Lib.Math.min.code 2 (some .int), Cond.methodLink RX2 42 Lib.Math.max.name, Cond.static Lib.Math.max.name, Cond.code Lib.Math.max.name Lib.Math.max.code 2 (some .int), Cond.methodLink RL 53 yX7_revoke, Cond.instanceMethod yX7_revoke, Cond.selects RX7 yX7_revoke yX7_revoke, Cond.code yX7_revoke cX7_revoke 2 (some .int), Cond.methodLink RX7 152 yX7_endToken, Cond.instanceMethod yX7_endToken, Cond.selects RX7 yX7_endToken yX7_endToken, Cond.code yX7_endToken cX7_endToken 3 (some .int), Cond.methodLink RX7 289 ⟨"SecretBroker$Tokens", "end", "(I)I"⟩, Cond.sameMethod "SecretBroker$Tokens" "SecretBroker$Leased" "end" "(I)I", Cond.selects RX6 ⟨"SecretBroker$Tokens", "end", "(I)I"⟩ yX2_end, Cond.instanceMethod yX2_end, Cond.code yX2_end cX2_end 2 (some .int), Cond.methodLink RX2 45 ⟨"SecretBroker$Leased", "isOn", "(I)Z"⟩, Cond.sameMethod "SecretBroker$Leased" "SecretBroker$Leased" "isOn" "(I)Z"]
def wsL_same_r11 : List Cond := [Cond.selects RX1 ⟨"SecretBroker$Leased", "isOn", "(I)Z"⟩ yX2_isOn, Cond.selects RX6 ⟨"SecretBroker$Leased", "isOn", "(I)Z"⟩ yX2_isOn, Cond.methodLink RX7 208 yX7_endWhatHungOnTokens, Cond.instanceMethod yX7_endWhatHungOnTokens, Cond.selects RX7 yX7_endWhatHungOnTokens yX7_endWhatHungOnTokens, Cond.code yX7_endWhatHungOnTokens cX7_endWhatHungOnTokens 2 (some .int), Cond.methodLink RX7 292 yX6_endBelowEnded, Cond.instanceMethod yX6_endBelowEnded, Cond.selects RX6 yX6_endBelowEnded yX6_endBelowEnded, Cond.code yX6_endBelowEnded cX6_endBelowEnded 3 (some .int), Cond.methodLink RX6 40 ⟨"SecretBroker$Tokens", "end", "(I)I"⟩, Cond.methodLink RX7 295 yX1_endOfEnded, Cond.instanceMethod yX1_endOfEnded, Cond.selects RX1 yX1_endOfEnded yX1_endOfEnded, Cond.code yX1_endOfEnded cX1_endOfEnded 4 (some .int), Cond.methodLink RX1 39 ⟨"SecretBroker$Tokens", "isOn", "(I)Z"⟩, Cond.methodLink RX1 35 ⟨"SecretBroker$Credentials", "end", "(I)I"⟩, Cond.sameMethod "SecretBroker$Credentials" "SecretBroker$Leased" "end" "(I)I", Cond.selects RX1 ⟨"SecretBroker$Credentials", "end", "(I)I"⟩ yX2_end, Cond.methodLink RL 56 yX7_revokeAlone, Cond.instanceMethod yX7_revokeAlone, Cond.selects RX7 yX7_revokeAlone yX7_revokeAlone, Cond.code yX7_revokeAlone cX7_revokeAlone 2 (some .int), Cond.methodLink RX7 155 yX6_freeChildren]
def wsL_same_r12 : List Cond := [Cond.instanceMethod yX6_freeChildren, Cond.selects RX6 yX6_freeChildren yX6_freeChildren, Cond.code yX6_freeChildren cX6_freeChildren 3 none, Cond.methodLink RL 59 yX7_renewCredential, Cond.instanceMethod yX7_renewCredential, Cond.selects RX7 yX7_renewCredential yX7_renewCredential, Cond.code yX7_renewCredential cX7_renewCredential 4 (some .int), Cond.methodLink RX7 193 ⟨"SecretBroker$Credentials", "prolong", "(III)V"⟩, Cond.sameMethod "SecretBroker$Credentials" "SecretBroker$Leased" "prolong" "(III)V", Cond.selects RX1 ⟨"SecretBroker$Credentials", "prolong", "(III)V"⟩ yX2_prolong, Cond.methodLink RX7 195 yX1_ownerAt, Cond.instanceMethod yX1_ownerAt, Cond.selects RX1 yX1_ownerAt yX1_ownerAt, Cond.code yX1_ownerAt cX1_ownerAt 2 (some .int), Cond.methodLink RX1 18 ⟨"SecretBroker$Credentials", "has", "(I)Z"⟩, Cond.methodLink RL 68 yX7_request, Cond.instanceMethod yX7_request, Cond.selects RX7 yX7_request yX7_request, Cond.code yX7_request cX7_request 5 (some .int), Cond.methodLink RX7 98 yX7_checkPath, Cond.static yX7_checkPath, Cond.code yX7_checkPath cX7_checkPath 1 none, Cond.methodLink RX7 261 yX4_isPath, Cond.static yX4_isPath]
def wsL_same_r13 : List Cond := [Cond.initialized RX4, Cond.code yX4_isPath cX4_isPath 1 (some .boolean), Cond.methodLink RX4 9 yX4_hasDigits, Cond.static yX4_hasDigits, Cond.code yX4_hasDigits cX4_hasDigits 5 (some .boolean), Cond.constant RX4 15 (999999), Cond.methodLink RX7 174 yX7_reasonAgainst, Cond.instanceMethod yX7_reasonAgainst, Cond.selects RX7 yX7_reasonAgainst yX7_reasonAgainst, Cond.code yX7_reasonAgainst cX7_reasonAgainst 3 (some .int), Cond.fieldLink RX7 19 "SecretBroker" "mountTable" "LSecretBroker$Mounts;", Cond.methodLink RX7 277 yX3_nearest, Cond.instanceMethod yX3_nearest, Cond.selects RX3 yX3_nearest yX3_nearest, Cond.initialized RX3, Cond.code yX3_nearest cX3_nearest 4 (some .int), Cond.fieldLink RX3 21 "SecretBroker$Mounts" "count" "I", Cond.fieldLink RX3 9 "SecretBroker$Mounts" "paths" "[I", Cond.methodLink RX3 29 yX4_isBelow, Cond.static yX4_isBelow, Cond.code yX4_isBelow cX4_isBelow 3 (some .boolean), Cond.methodLink RX4 16 yX4_length, Cond.static yX4_length, Cond.code yX4_length cX4_length 4 (some .int)]
def wsL_same_r14 : List Cond := [Cond.methodLink RX4 20 yX4_withoutLast, Cond.static yX4_withoutLast, Cond.code yX4_withoutLast cX4_withoutLast 4 (some .int), Cond.methodLink RX7 170 yX7_capabilitiesAt, Cond.instanceMethod yX7_capabilitiesAt, Cond.selects RX7 yX7_capabilitiesAt yX7_capabilitiesAt, Cond.code yX7_capabilitiesAt cX7_capabilitiesAt 4 (some .int), Cond.methodLink RX7 274 yX5_together, Cond.instanceMethod yX5_together, Cond.selects RX5 yX5_together yX5_together, Cond.code yX5_together cX5_together 5 (some .int), Cond.methodLink RX5 44 yX5_decided, Cond.instanceMethod yX5_decided, Cond.selects RX5 yX5_decided yX5_decided, Cond.code yX5_decided cX5_decided 7 (some .int), Cond.fieldLink RX5 15 "SecretBroker$Policies" "patterns" "[I", Cond.fieldLink RX5 18 "SecretBroker$Policies" "opens" "[Z", Cond.fieldLink RX5 22 "SecretBroker$Policies" "sets" "[I", Cond.methodLink RX5 33 yX5_rulesOf, Cond.instanceMethod yX5_rulesOf, Cond.selects RX5 yX5_rulesOf yX5_rulesOf, Cond.code yX5_rulesOf cX5_rulesOf 2 (some .int), Cond.fieldLink RX5 9 "SecretBroker$Policies" "ruleCounts" "[I", Cond.methodLink RX5 29 yX5_has]
def wsL_same_r15 : List Cond := [Cond.instanceMethod yX5_has, Cond.selects RX5 yX5_has yX5_has, Cond.code yX5_has cX5_has 2 (some .boolean), Cond.methodLink RX5 48 yX4_fits, Cond.static yX4_fits, Cond.code yX4_fits cX4_fits 8 (some .boolean), Cond.methodLink RX5 54 yX5_goesAhead, Cond.instanceMethod yX5_goesAhead, Cond.selects RX5 yX5_goesAhead yX5_goesAhead, Cond.code yX5_goesAhead cX5_goesAhead 4 (some .boolean), Cond.methodLink RX5 58 yX4_length, Cond.methodLink RX7 177 ⟨"SecretBroker$Credentials", "living", "()I"⟩, Cond.sameMethod "SecretBroker$Credentials" "SecretBroker$Leased" "living" "()I", Cond.selects RX1 ⟨"SecretBroker$Credentials", "living", "()I"⟩ yX2_living, Cond.methodLink RX7 178 ⟨"SecretBroker$Credentials", "isFull", "()Z"⟩, Cond.sameMethod "SecretBroker$Credentials" "SecretBroker$Leased" "isFull" "()Z", Cond.selects RX1 ⟨"SecretBroker$Credentials", "isFull", "()Z"⟩ yX2_isFull, Cond.methodLink RX7 181 yX6_takeUse, Cond.instanceMethod yX6_takeUse, Cond.selects RX6 yX6_takeUse yX6_takeUse, Cond.code yX6_takeUse cX6_takeUse 2 none, Cond.methodLink RX7 184 yX7_give, Cond.instanceMethod yX7_give, Cond.selects RX7 yX7_give yX7_give]
def wsL_same_r16 : List Cond := [Cond.code yX7_give cX7_give 6 (some .int), Cond.methodLink RX7 280 yX3_minutesAt, Cond.instanceMethod yX3_minutesAt, Cond.selects RX3 yX3_minutesAt yX3_minutesAt, Cond.code yX3_minutesAt cX3_minutesAt 2 (some .int), Cond.fieldLink RX3 15 "SecretBroker$Mounts" "minutes" "[I", Cond.methodLink RX3 35 yX3_has, Cond.instanceMethod yX3_has, Cond.selects RX3 yX3_has yX3_has, Cond.code yX3_has cX3_has 2 (some .boolean), Cond.methodLink RX7 283 yX3_boundAt, Cond.instanceMethod yX3_boundAt, Cond.selects RX3 yX3_boundAt yX3_boundAt, Cond.code yX3_boundAt cX3_boundAt 2 (some .int), Cond.fieldLink RX3 18 "SecretBroker$Mounts" "bounds" "[I", Cond.methodLink RX7 286 ⟨"SecretBroker$Credentials", "add", "(III)I"⟩, Cond.sameMethod "SecretBroker$Credentials" "SecretBroker$Leased" "add" "(III)I", Cond.selects RX1 ⟨"SecretBroker$Credentials", "add", "(III)I"⟩ yX2_add, Cond.methodLink RX7 287 yX1_describe, Cond.instanceMethod yX1_describe, Cond.selects RX1 yX1_describe yX1_describe, Cond.code yX1_describe cX1_describe 4 none, Cond.fieldLink RX1 15 "SecretBroker$Credentials" "paths" "[I", Cond.methodLink RL 71 yX7_kindOf]
def wsL_same_r17 : List Cond := [Cond.instanceMethod yX7_kindOf, Cond.selects RX7 yX7_kindOf yX7_kindOf, Cond.code yX7_kindOf cX7_kindOf 2 (some .int), Cond.methodLink RX7 224 yX7_checkEntry, Cond.instanceMethod yX7_checkEntry, Cond.selects RX7 yX7_checkEntry yX7_checkEntry, Cond.code yX7_checkEntry cX7_checkEntry 2 none, Cond.methodLink RX7 254 yX0_has, Cond.instanceMethod yX0_has, Cond.selects RX0 yX0_has yX0_has, Cond.code yX0_has cX0_has 2 (some .boolean), Cond.methodLink RX7 227 yX0_kindAt, Cond.instanceMethod yX0_kindAt, Cond.selects RX0 yX0_kindAt yX0_kindAt, Cond.code yX0_kindAt cX0_kindAt 2 (some .int), Cond.methodLink RX0 41 yX0_has, Cond.methodLink RL 123 yX7_tokens, Cond.instanceMethod yX7_tokens, Cond.selects RX7 yX7_tokens yX7_tokens, Cond.code yX7_tokens cX7_tokens 1 (some .int), Cond.methodLink RL 126 yL_living, Cond.static yL_living, Cond.code yL_living cL_living 4 (some .int), Cond.methodLink RL 130 yX7_credentials]
def wsL_same_r18 : List Cond := [Cond.instanceMethod yX7_credentials, Cond.selects RX7 yX7_credentials yX7_credentials, Cond.code yX7_credentials cX7_credentials 1 (some .int), Cond.methodLink RL 133 yL_working, Cond.static yL_working, Cond.code yL_working cL_working 5 (some .int), Cond.methodLink RL 137 yX7_nextEnd, Cond.instanceMethod yX7_nextEnd, Cond.selects RX7 yX7_nextEnd yX7_nextEnd, Cond.code yX7_nextEnd cX7_nextEnd 3 (some .int), Cond.methodLink RX7 215 Lib.Math.max.name, Cond.methodLink RX7 220 Lib.Math.min.name, Cond.methodLink RX7 211 ⟨"SecretBroker$Tokens", "firstEnd", "()I"⟩, Cond.sameMethod "SecretBroker$Tokens" "SecretBroker$Leased" "firstEnd" "()I", Cond.selects RX6 ⟨"SecretBroker$Tokens", "firstEnd", "()I"⟩ yX2_firstEnd, Cond.instanceMethod yX2_firstEnd, Cond.code yX2_firstEnd cX2_firstEnd 3 (some .int), Cond.methodLink RX7 214 ⟨"SecretBroker$Credentials", "firstEnd", "()I"⟩, Cond.sameMethod "SecretBroker$Credentials" "SecretBroker$Leased" "firstEnd" "()I", Cond.selects RX1 ⟨"SecretBroker$Credentials", "firstEnd", "()I"⟩ yX2_firstEnd, Cond.methodLink RL 140 yX7_time, Cond.instanceMethod yX7_time, Cond.selects RX7 yX7_time yX7_time, Cond.code yX7_time cX7_time 1 (some .int)]
def wsL_same_r19 : List Cond := [Cond.methodLink RL 84 yX7_entries, Cond.instanceMethod yX7_entries, Cond.selects RX7 yX7_entries yX7_entries, Cond.code yX7_entries cX7_entries 1 (some .int), Cond.methodLink RX7 223 yX0_count, Cond.instanceMethod yX0_count, Cond.selects RX0 yX0_count yX0_count, Cond.code yX0_count cX0_count 1 (some .int)]
def wsL_same : List Cond := .code yL_same cL_same 11 (some .boolean) :: ((wsL_same_r1 ++ (wsL_same_r2 ++ (wsL_same_r3 ++ (wsL_same_r4 ++ (wsL_same_r5 ++ (wsL_same_r6 ++ (wsL_same_r7 ++ (wsL_same_r8 ++ (wsL_same_r9 ++ (wsL_same_r10 ++ (wsL_same_r11 ++ (wsL_same_r12 ++ (wsL_same_r13 ++ (wsL_same_r14 ++ (wsL_same_r15 ++ (wsL_same_r16 ++ (wsL_same_r17 ++ (wsL_same_r18 ++ wsL_same_r19)))))))))))))))))) ++ wsX70 ++ wsX10 ++ wsX60 ++ wsX50 ++ wsX00 ++ wsX30 ++ (vx_atS RX7 247 "java/lang/IndexOutOfBoundsException" ["java/lang/RuntimeException", "java/lang/Exception"]).filter goodWord ++ (vx_atS RX7 76 "java/lang/IllegalArgumentException" ["java/lang/RuntimeException", "java/lang/Exception"]).filter goodWord ++ (vx_atS RX7 56 "java/lang/IllegalStateException" ["java/lang/RuntimeException", "java/lang/Exception"]).filter goodWord)
def wsL_path : List Cond := .code yL_path cL_path 4 (some .int) :: ([.methodLink RL 113 yL_low, .static yL_low, .initialized RL, .code yL_low cL_low 2 (some .int), .constant RL 9 (2147483647)])
def wsL_law0_r1 : List Cond := [Cond.classLink RL 44 RX7, Cond.instantiable RX7 6, Cond.initialized RX7, Cond.arrayClass .int, Cond.arrayClass .long, Cond.constantLong RL 144 (17), Cond.methodLink RL 143 yX7_init, Cond.instanceMethod yX7_init, Cond.code yX7_init cX7_init 1 none, Cond.methodLink RX7 1 objectInit, Cond.instanceMethod objectInit, Cond.code objectInit ⟨#[0xb1]⟩ 1 none, Cond.classLink RX7 7 RX5, Cond.instantiable RX5 5, Cond.initialized RX5, Cond.fieldLink RX7 10 "SecretBroker" "policyTable" "LSecretBroker$Policies;", Cond.classLink RX7 16 RX3, Cond.instantiable RX3 4, Cond.initialized RX3, Cond.fieldLink RX7 19 "SecretBroker" "mountTable" "LSecretBroker$Mounts;", Cond.classLink RX7 23 RX6, Cond.instantiable RX6 9, Cond.initialized RX6, Cond.fieldLink RX7 26 "SecretBroker" "tokenTable" "LSecretBroker$Tokens;"]
def wsL_law0_r2 : List Cond := [Cond.classLink RX7 30 RX1, Cond.instantiable RX1 8, Cond.initialized RX1, Cond.fieldLink RX7 33 "SecretBroker" "credentialTable" "LSecretBroker$Credentials;", Cond.classLink RX7 37 RX0, Cond.instantiable RX0 5, Cond.initialized RX0, Cond.fieldLink RX7 40 "SecretBroker" "audit" "LSecretBroker$Audit;", Cond.fieldLink RX7 44 "SecretBroker" "now" "I", Cond.instanceMethod yX5_init, Cond.code yX5_init cX5_init 1 none, Cond.methodLink RX5 3 objectInit, Cond.fieldLink RX5 9 "SecretBroker$Policies" "ruleCounts" "[I", Cond.fieldLink RX5 15 "SecretBroker$Policies" "patterns" "[I", Cond.arrayClass .boolean, Cond.fieldLink RX5 18 "SecretBroker$Policies" "opens" "[Z", Cond.fieldLink RX5 22 "SecretBroker$Policies" "sets" "[I", Cond.fieldLink RX5 25 "SecretBroker$Policies" "count" "I", Cond.instanceMethod yX3_init, Cond.code yX3_init cX3_init 1 none, Cond.methodLink RX3 3 objectInit, Cond.fieldLink RX3 9 "SecretBroker$Mounts" "paths" "[I", Cond.fieldLink RX3 15 "SecretBroker$Mounts" "minutes" "[I", Cond.fieldLink RX3 18 "SecretBroker$Mounts" "bounds" "[I"]
def wsL_law0_r3 : List Cond := [Cond.fieldLink RX3 21 "SecretBroker$Mounts" "count" "I", Cond.methodLink RX7 25 yX6_init, Cond.instanceMethod yX6_init, Cond.code yX6_init cX6_init 1 none, Cond.fieldLink RX6 9 "SecretBroker$Tokens" "parents" "[I", Cond.fieldLink RX6 15 "SecretBroker$Tokens" "policySets" "[I", Cond.fieldLink RX6 18 "SecretBroker$Tokens" "uses" "[I", Cond.instanceMethod yX2_init, Cond.initialized RX2, Cond.code yX2_init cX2_init 1 none, Cond.methodLink RX2 3 objectInit, Cond.fieldLink RX2 9 "SecretBroker$Leased" "beginnings" "[I", Cond.fieldLink RX2 15 "SecretBroker$Leased" "ends" "[I", Cond.fieldLink RX2 18 "SecretBroker$Leased" "bounds" "[I", Cond.fieldLink RX2 21 "SecretBroker$Leased" "on" "[Z", Cond.fieldLink RX2 25 "SecretBroker$Leased" "made" "I", Cond.fieldLink RX2 29 "SecretBroker$Leased" "living" "I", Cond.methodLink RX6 21 ⟨"SecretBroker$Tokens", "add", "(III)I"⟩, Cond.sameMethod "SecretBroker$Tokens" "SecretBroker$Leased" "add" "(III)I", Cond.selects RX6 ⟨"SecretBroker$Tokens", "add", "(III)I"⟩ yX2_add, Cond.instanceMethod yX2_add, Cond.code yX2_add cX2_add 4 (some .int), Cond.methodLink RX6 25 yX6_describe, Cond.instanceMethod yX6_describe]
def wsL_law0_r4 : List Cond := [Cond.selects RX6 yX6_describe yX6_describe, Cond.code yX6_describe cX6_describe 5 none, Cond.methodLink RX6 29 ⟨"SecretBroker$Tokens", "has", "(I)Z"⟩, Cond.sameMethod "SecretBroker$Tokens" "SecretBroker$Leased" "has" "(I)Z", Cond.selects RX6 ⟨"SecretBroker$Tokens", "has", "(I)Z"⟩ yX2_has, Cond.instanceMethod yX2_has, Cond.code yX2_has cX2_has 2 (some .boolean), Cond.instanceMethod yX1_init, Cond.code yX1_init cX1_init 1 none, Cond.fieldLink RX1 9 "SecretBroker$Credentials" "owners" "[I", Cond.fieldLink RX1 15 "SecretBroker$Credentials" "paths" "[I", Cond.instanceMethod yX0_init, Cond.code yX0_init cX0_init 1 none, Cond.methodLink RX0 3 objectInit, Cond.fieldLink RX0 9 "SecretBroker$Audit" "kinds" "[I", Cond.fieldLink RX0 15 "SecretBroker$Audit" "subjects" "[I", Cond.fieldLink RX0 18 "SecretBroker$Audit" "details" "[I", Cond.fieldLink RX0 21 "SecretBroker$Audit" "sums" "[J", Cond.fieldLink RX0 25 "SecretBroker$Audit" "count" "I", Cond.methodLink RL 146 yX7_policy, Cond.instanceMethod yX7_policy, Cond.selects RX7 yX7_policy yX7_policy, Cond.code yX7_policy cX7_policy 1 (some .int), Cond.classLink RX7 52 "java/lang/IllegalStateException"]
def wsL_law0_r5 : List Cond := [Cond.initialized "java/lang/IllegalStateException", Cond.methodLink RX7 48 yX5_count, Cond.instanceMethod yX5_count, Cond.selects RX5 yX5_count yX5_count, Cond.code yX5_count cX5_count 1 (some .int), Cond.methodLink RX7 59 yX5_add, Cond.instanceMethod yX5_add, Cond.selects RX5 yX5_add yX5_add, Cond.code yX5_add cX5_add 1 (some .int), Cond.methodLink RL 149 yL_cell, Cond.static yL_cell, Cond.initialized RL, Cond.code yL_cell cL_cell 2 (some .int), Cond.constant RL 7 (1000308201), Cond.constant RL 8 (751363375), Cond.methodLink RL 113 yL_low, Cond.static yL_low, Cond.code yL_low cL_low 2 (some .int), Cond.constant RL 9 (2147483647), Cond.methodLink RL 23 yL_lives, Cond.static yL_lives, Cond.code yL_lives cL_lives 4 (some .boolean), Cond.methodLink RL 126 yL_living, Cond.static yL_living]
def wsL_law0_r6 : List Cond := [Cond.code yL_living cL_living 4 (some .int), Cond.methodLink RL 133 yL_working, Cond.static yL_working, Cond.code yL_working cL_working 5 (some .int), Cond.methodLink RL 27 yL_works, Cond.static yL_works, Cond.code yL_works cL_works 4 (some .boolean), Cond.methodLink RL 153 yL_path, Cond.static yL_path, Cond.code yL_path cL_path 4 (some .int), Cond.methodLink RL 156 yX7_allow, Cond.instanceMethod yX7_allow, Cond.selects RX7 yX7_allow yX7_allow, Cond.code yX7_allow cX7_allow 6 (some .int), Cond.classLink RX7 72 "java/lang/IllegalArgumentException", Cond.initialized "java/lang/IllegalArgumentException", Cond.methodLink RX7 62 yX7_checkPolicy, Cond.instanceMethod yX7_checkPolicy, Cond.selects RX7 yX7_checkPolicy yX7_checkPolicy, Cond.code yX7_checkPolicy cX7_checkPolicy 2 none, Cond.classLink RX7 243 "java/lang/IndexOutOfBoundsException", Cond.initialized "java/lang/IndexOutOfBoundsException", Cond.methodLink RX7 240 yX5_has, Cond.instanceMethod yX5_has]
def wsL_law0_r7 : List Cond := [Cond.selects RX5 yX5_has yX5_has, Cond.code yX5_has cX5_has 2 (some .boolean), Cond.methodLink RX7 66 yX4_isPattern, Cond.static yX4_isPattern, Cond.initialized RX4, Cond.code yX4_isPattern cX4_isPattern 1 (some .boolean), Cond.methodLink RX4 9 yX4_hasDigits, Cond.static yX4_hasDigits, Cond.code yX4_hasDigits cX4_hasDigits 5 (some .boolean), Cond.constant RX4 15 (999999), Cond.methodLink RX7 77 yX7_checkRange, Cond.static yX7_checkRange, Cond.code yX7_checkRange cX7_checkRange 3 none, Cond.methodLink RX7 81 yX5_find, Cond.instanceMethod yX5_find, Cond.selects RX5 yX5_find yX5_find, Cond.code yX5_find cX5_find 7 (some .int), Cond.methodLink RX5 33 yX5_rulesOf, Cond.instanceMethod yX5_rulesOf, Cond.selects RX5 yX5_rulesOf yX5_rulesOf, Cond.code yX5_rulesOf cX5_rulesOf 2 (some .int), Cond.methodLink RX5 29 yX5_has, Cond.methodLink RX7 85 yX5_rulesOf, Cond.methodLink RX7 91 yX5_put]
def wsL_law0_r8 : List Cond := [Cond.instanceMethod yX5_put, Cond.selects RX5 yX5_put yX5_put, Cond.code yX5_put cX5_put 6 none, Cond.methodLink RX5 37 yX5_find, Cond.methodLink RX5 41 yX5_addRule, Cond.instanceMethod yX5_addRule, Cond.selects RX5 yX5_addRule yX5_addRule, Cond.code yX5_addRule cX5_addRule 2 (some .int), Cond.methodLink RL 160 yX7_mount, Cond.instanceMethod yX7_mount, Cond.selects RX7 yX7_mount yX7_mount, Cond.code yX7_mount cX7_mount 4 (some .int), Cond.methodLink RX7 98 yX7_checkPath, Cond.static yX7_checkPath, Cond.code yX7_checkPath cX7_checkPath 1 none, Cond.methodLink RX7 261 yX4_isPath, Cond.static yX4_isPath, Cond.code yX4_isPath cX4_isPath 1 (some .boolean), Cond.methodLink RX7 101 yX7_checkLease, Cond.static yX7_checkLease, Cond.code yX7_checkLease cX7_checkLease 2 none, Cond.methodLink RX7 105 yX3_find, Cond.instanceMethod yX3_find, Cond.selects RX3 yX3_find yX3_find]
def wsL_law0_r9 : List Cond := [Cond.code yX3_find cX3_find 3 (some .int), Cond.methodLink RX7 107 yX3_count, Cond.instanceMethod yX3_count, Cond.selects RX3 yX3_count yX3_count, Cond.code yX3_count cX3_count 1 (some .int), Cond.methodLink RX7 110 yX3_put, Cond.instanceMethod yX3_put, Cond.selects RX3 yX3_put yX3_put, Cond.code yX3_put cX3_put 5 none, Cond.methodLink RX3 25 yX3_find, Cond.methodLink RL 119 yL_refused, Cond.static yL_refused, Cond.codeWith yL_refused cL_refused 6 (some .int) [(0, 121, 122, 74), (0, 121, 126, 76), (0, 121, 130, 78)], Cond.classLink RL 74 "java/lang/IllegalArgumentException", Cond.classLink RL 76 "java/lang/IllegalStateException", Cond.classLink RL 78 "java/lang/IndexOutOfBoundsException", Cond.methodLink RL 43 yX7_create, Cond.instanceMethod yX7_create, Cond.selects RX7 yX7_create yX7_create, Cond.code yX7_create cX7_create 7 (some .int), Cond.methodLink RX7 112 yX7_checkToken, Cond.instanceMethod yX7_checkToken, Cond.selects RX7 yX7_checkToken yX7_checkToken, Cond.code yX7_checkToken cX7_checkToken 2 none]
def wsL_law0_r10 : List Cond := [Cond.methodLink RX7 248 ⟨"SecretBroker$Tokens", "has", "(I)Z"⟩, Cond.methodLink RX7 115 yX7_mayHand, Cond.instanceMethod yX7_mayHand, Cond.selects RX7 yX7_mayHand yX7_mayHand, Cond.code yX7_mayHand cX7_mayHand 3 (some .boolean), Cond.methodLink RX7 268 yX5_hasAll, Cond.instanceMethod yX5_hasAll, Cond.selects RX5 yX5_hasAll yX5_hasAll, Cond.code yX5_hasAll cX5_hasAll 2 (some .boolean), Cond.methodLink RX7 271 yX6_policiesAt, Cond.instanceMethod yX6_policiesAt, Cond.selects RX6 yX6_policiesAt yX6_policiesAt, Cond.code yX6_policiesAt cX6_policiesAt 2 (some .int), Cond.methodLink RX7 121 yX7_checkAliveToken, Cond.instanceMethod yX7_checkAliveToken, Cond.selects RX7 yX7_checkAliveToken yX7_checkAliveToken, Cond.code yX7_checkAliveToken cX7_checkAliveToken 2 none, Cond.methodLink RX7 158 ⟨"SecretBroker$Tokens", "isOn", "(I)Z"⟩, Cond.sameMethod "SecretBroker$Tokens" "SecretBroker$Leased" "isOn" "(I)Z", Cond.selects RX6 ⟨"SecretBroker$Tokens", "isOn", "(I)Z"⟩ yX2_isOn, Cond.instanceMethod yX2_isOn, Cond.code yX2_isOn cX2_isOn 2 (some .boolean), Cond.methodLink RX2 32 ⟨"SecretBroker$Leased", "has", "(I)Z"⟩, Cond.sameMethod "SecretBroker$Leased" "SecretBroker$Leased" "has" "(I)Z"]
def wsL_law0_r11 : List Cond := [Cond.selects RX1 ⟨"SecretBroker$Leased", "has", "(I)Z"⟩ yX2_has, Cond.selects RX6 ⟨"SecretBroker$Leased", "has", "(I)Z"⟩ yX2_has, Cond.methodLink RX7 124 ⟨"SecretBroker$Tokens", "living", "()I"⟩, Cond.sameMethod "SecretBroker$Tokens" "SecretBroker$Leased" "living" "()I", Cond.selects RX6 ⟨"SecretBroker$Tokens", "living", "()I"⟩ yX2_living, Cond.instanceMethod yX2_living, Cond.code yX2_living cX2_living 1 (some .int), Cond.methodLink RX7 127 ⟨"SecretBroker$Tokens", "isFull", "()Z"⟩, Cond.sameMethod "SecretBroker$Tokens" "SecretBroker$Leased" "isFull" "()Z", Cond.selects RX6 ⟨"SecretBroker$Tokens", "isFull", "()Z"⟩ yX2_isFull, Cond.instanceMethod yX2_isFull, Cond.code yX2_isFull cX2_isFull 1 (some .boolean), Cond.methodLink RX7 133 ⟨"SecretBroker$Tokens", "add", "(III)I"⟩, Cond.methodLink RX7 136 yX6_describe, Cond.methodLink RX7 140 yX0_write, Cond.instanceMethod yX0_write, Cond.selects RX0 yX0_write yX0_write, Cond.code yX0_write cX0_write 7 none, Cond.constantLong RX0 29 (17), Cond.constantLong RX0 31 (31), Cond.constantLong RX0 33 (7), Cond.constantLong RX0 35 (5), Cond.constantLong RX0 37 (3), Cond.constantLong RX0 39 (1000003)]
def wsL_law0_r12 : List Cond := [Cond.methodLink RL 49 yX7_renew, Cond.instanceMethod yX7_renew, Cond.selects RX7 yX7_renew yX7_renew, Cond.code yX7_renew cX7_renew 4 (some .int), Cond.methodLink RX7 143 yX7_checkEndingToken, Cond.instanceMethod yX7_checkEndingToken, Cond.selects RX7 yX7_checkEndingToken yX7_checkEndingToken, Cond.code yX7_checkEndingToken cX7_checkEndingToken 2 none, Cond.methodLink RX7 146 ⟨"SecretBroker$Tokens", "prolong", "(III)V"⟩, Cond.sameMethod "SecretBroker$Tokens" "SecretBroker$Leased" "prolong" "(III)V", Cond.selects RX6 ⟨"SecretBroker$Tokens", "prolong", "(III)V"⟩ yX2_prolong, Cond.instanceMethod yX2_prolong, Cond.code yX2_prolong cX2_prolong 5 none, Cond.methodLink RX2 36 Lib.Math.min.name, Cond.static Lib.Math.min.name, Cond.initialized "java/lang/Math", Cond.code Lib.Math.min.name Lib.Math.min.code 2 (some .int), Cond.methodLink RX2 42 Lib.Math.max.name, Cond.static Lib.Math.max.name, Cond.code Lib.Math.max.name Lib.Math.max.code 2 (some .int), Cond.methodLink RX7 149 ⟨"SecretBroker$Tokens", "endAt", "(I)I"⟩, Cond.sameMethod "SecretBroker$Tokens" "SecretBroker$Leased" "endAt" "(I)I", Cond.selects RX6 ⟨"SecretBroker$Tokens", "endAt", "(I)I"⟩ yX2_endAt, Cond.instanceMethod yX2_endAt]
def wsL_law0_r13 : List Cond := [Cond.code yX2_endAt cX2_endAt 2 (some .int), Cond.methodLink RL 53 yX7_revoke, Cond.instanceMethod yX7_revoke, Cond.selects RX7 yX7_revoke yX7_revoke, Cond.code yX7_revoke cX7_revoke 2 (some .int), Cond.methodLink RX7 152 yX7_endToken, Cond.instanceMethod yX7_endToken, Cond.selects RX7 yX7_endToken yX7_endToken, Cond.code yX7_endToken cX7_endToken 3 (some .int), Cond.methodLink RX7 289 ⟨"SecretBroker$Tokens", "end", "(I)I"⟩, Cond.sameMethod "SecretBroker$Tokens" "SecretBroker$Leased" "end" "(I)I", Cond.selects RX6 ⟨"SecretBroker$Tokens", "end", "(I)I"⟩ yX2_end, Cond.instanceMethod yX2_end, Cond.code yX2_end cX2_end 2 (some .int), Cond.methodLink RX2 45 ⟨"SecretBroker$Leased", "isOn", "(I)Z"⟩, Cond.sameMethod "SecretBroker$Leased" "SecretBroker$Leased" "isOn" "(I)Z", Cond.selects RX1 ⟨"SecretBroker$Leased", "isOn", "(I)Z"⟩ yX2_isOn, Cond.selects RX6 ⟨"SecretBroker$Leased", "isOn", "(I)Z"⟩ yX2_isOn, Cond.methodLink RX7 208 yX7_endWhatHungOnTokens, Cond.instanceMethod yX7_endWhatHungOnTokens, Cond.selects RX7 yX7_endWhatHungOnTokens yX7_endWhatHungOnTokens, Cond.code yX7_endWhatHungOnTokens cX7_endWhatHungOnTokens 2 (some .int), Cond.methodLink RX7 292 yX6_endBelowEnded, Cond.instanceMethod yX6_endBelowEnded]
def wsL_law0_r14 : List Cond := [Cond.selects RX6 yX6_endBelowEnded yX6_endBelowEnded, Cond.code yX6_endBelowEnded cX6_endBelowEnded 3 (some .int), Cond.methodLink RX6 36 ⟨"SecretBroker$Tokens", "made", "()I"⟩, Cond.sameMethod "SecretBroker$Tokens" "SecretBroker$Leased" "made" "()I", Cond.selects RX6 ⟨"SecretBroker$Tokens", "made", "()I"⟩ yX2_made, Cond.instanceMethod yX2_made, Cond.code yX2_made cX2_made 1 (some .int), Cond.methodLink RX6 33 ⟨"SecretBroker$Tokens", "isOn", "(I)Z"⟩, Cond.methodLink RX6 40 ⟨"SecretBroker$Tokens", "end", "(I)I"⟩, Cond.methodLink RX7 295 yX1_endOfEnded, Cond.instanceMethod yX1_endOfEnded, Cond.selects RX1 yX1_endOfEnded yX1_endOfEnded, Cond.code yX1_endOfEnded cX1_endOfEnded 4 (some .int), Cond.methodLink RX1 22 ⟨"SecretBroker$Credentials", "made", "()I"⟩, Cond.sameMethod "SecretBroker$Credentials" "SecretBroker$Leased" "made" "()I", Cond.selects RX1 ⟨"SecretBroker$Credentials", "made", "()I"⟩ yX2_made, Cond.methodLink RX1 39 ⟨"SecretBroker$Tokens", "isOn", "(I)Z"⟩, Cond.methodLink RX1 35 ⟨"SecretBroker$Credentials", "end", "(I)I"⟩, Cond.sameMethod "SecretBroker$Credentials" "SecretBroker$Leased" "end" "(I)I", Cond.selects RX1 ⟨"SecretBroker$Credentials", "end", "(I)I"⟩ yX2_end, Cond.methodLink RL 56 yX7_revokeAlone, Cond.instanceMethod yX7_revokeAlone, Cond.selects RX7 yX7_revokeAlone yX7_revokeAlone, Cond.code yX7_revokeAlone cX7_revokeAlone 2 (some .int)]
def wsL_law0_r15 : List Cond := [Cond.methodLink RX7 155 yX6_freeChildren, Cond.instanceMethod yX6_freeChildren, Cond.selects RX6 yX6_freeChildren yX6_freeChildren, Cond.code yX6_freeChildren cX6_freeChildren 3 none, Cond.methodLink RL 59 yX7_renewCredential, Cond.instanceMethod yX7_renewCredential, Cond.selects RX7 yX7_renewCredential yX7_renewCredential, Cond.code yX7_renewCredential cX7_renewCredential 4 (some .int), Cond.methodLink RX7 187 yX7_checkCredential, Cond.instanceMethod yX7_checkCredential, Cond.selects RX7 yX7_checkCredential yX7_checkCredential, Cond.code yX7_checkCredential cX7_checkCredential 2 none, Cond.methodLink RX7 251 ⟨"SecretBroker$Credentials", "has", "(I)Z"⟩, Cond.sameMethod "SecretBroker$Credentials" "SecretBroker$Leased" "has" "(I)Z", Cond.selects RX1 ⟨"SecretBroker$Credentials", "has", "(I)Z"⟩ yX2_has, Cond.methodLink RX7 190 ⟨"SecretBroker$Credentials", "isOn", "(I)Z"⟩, Cond.sameMethod "SecretBroker$Credentials" "SecretBroker$Leased" "isOn" "(I)Z", Cond.selects RX1 ⟨"SecretBroker$Credentials", "isOn", "(I)Z"⟩ yX2_isOn, Cond.methodLink RX7 193 ⟨"SecretBroker$Credentials", "prolong", "(III)V"⟩, Cond.sameMethod "SecretBroker$Credentials" "SecretBroker$Leased" "prolong" "(III)V", Cond.selects RX1 ⟨"SecretBroker$Credentials", "prolong", "(III)V"⟩ yX2_prolong, Cond.methodLink RX7 194 ⟨"SecretBroker$Credentials", "endAt", "(I)I"⟩, Cond.sameMethod "SecretBroker$Credentials" "SecretBroker$Leased" "endAt" "(I)I", Cond.selects RX1 ⟨"SecretBroker$Credentials", "endAt", "(I)I"⟩ yX2_endAt]
def wsL_law0_r16 : List Cond := [Cond.methodLink RX7 195 yX1_ownerAt, Cond.instanceMethod yX1_ownerAt, Cond.selects RX1 yX1_ownerAt yX1_ownerAt, Cond.code yX1_ownerAt cX1_ownerAt 2 (some .int), Cond.methodLink RX1 18 ⟨"SecretBroker$Credentials", "has", "(I)Z"⟩, Cond.methodLink RL 62 yX7_credentialsOf, Cond.instanceMethod yX7_credentialsOf, Cond.selects RX7 yX7_credentialsOf yX7_credentialsOf, Cond.code yX7_credentialsOf cX7_credentialsOf 2 (some .int), Cond.methodLink RX7 201 yX1_livingOf, Cond.instanceMethod yX1_livingOf, Cond.selects RX1 yX1_livingOf yX1_livingOf, Cond.code yX1_livingOf cX1_livingOf 4 (some .int), Cond.methodLink RX1 26 ⟨"SecretBroker$Credentials", "isOn", "(I)Z"⟩, Cond.methodLink RL 65 yX7_endOfCredential, Cond.instanceMethod yX7_endOfCredential, Cond.selects RX7 yX7_endOfCredential yX7_endOfCredential, Cond.code yX7_endOfCredential cX7_endOfCredential 2 (some .int), Cond.methodLink RL 68 yX7_request, Cond.instanceMethod yX7_request, Cond.selects RX7 yX7_request yX7_request, Cond.code yX7_request cX7_request 5 (some .int), Cond.methodLink RX7 174 yX7_reasonAgainst, Cond.instanceMethod yX7_reasonAgainst]
def wsL_law0_r17 : List Cond := [Cond.selects RX7 yX7_reasonAgainst yX7_reasonAgainst, Cond.code yX7_reasonAgainst cX7_reasonAgainst 3 (some .int), Cond.methodLink RX7 164 yX6_usesAt, Cond.instanceMethod yX6_usesAt, Cond.selects RX6 yX6_usesAt yX6_usesAt, Cond.code yX6_usesAt cX6_usesAt 2 (some .int), Cond.methodLink RX7 277 yX3_nearest, Cond.instanceMethod yX3_nearest, Cond.selects RX3 yX3_nearest yX3_nearest, Cond.code yX3_nearest cX3_nearest 4 (some .int), Cond.methodLink RX3 29 yX4_isBelow, Cond.static yX4_isBelow, Cond.code yX4_isBelow cX4_isBelow 3 (some .boolean), Cond.methodLink RX4 16 yX4_length, Cond.static yX4_length, Cond.code yX4_length cX4_length 4 (some .int), Cond.methodLink RX4 20 yX4_withoutLast, Cond.static yX4_withoutLast, Cond.code yX4_withoutLast cX4_withoutLast 4 (some .int), Cond.methodLink RX7 170 yX7_capabilitiesAt, Cond.instanceMethod yX7_capabilitiesAt, Cond.selects RX7 yX7_capabilitiesAt yX7_capabilitiesAt, Cond.code yX7_capabilitiesAt cX7_capabilitiesAt 4 (some .int), Cond.methodLink RX7 274 yX5_together]
def wsL_law0_r18 : List Cond := [Cond.instanceMethod yX5_together, Cond.selects RX5 yX5_together yX5_together, Cond.code yX5_together cX5_together 5 (some .int), Cond.methodLink RX5 44 yX5_decided, Cond.instanceMethod yX5_decided, Cond.selects RX5 yX5_decided yX5_decided, Cond.code yX5_decided cX5_decided 7 (some .int), Cond.methodLink RX5 48 yX4_fits, Cond.static yX4_fits, Cond.code yX4_fits cX4_fits 8 (some .boolean), Cond.methodLink RX5 54 yX5_goesAhead, Cond.instanceMethod yX5_goesAhead, Cond.selects RX5 yX5_goesAhead yX5_goesAhead, Cond.code yX5_goesAhead cX5_goesAhead 4 (some .boolean), Cond.methodLink RX5 58 yX4_length, Cond.methodLink RX7 177 ⟨"SecretBroker$Credentials", "living", "()I"⟩, Cond.sameMethod "SecretBroker$Credentials" "SecretBroker$Leased" "living" "()I", Cond.selects RX1 ⟨"SecretBroker$Credentials", "living", "()I"⟩ yX2_living, Cond.methodLink RX7 178 ⟨"SecretBroker$Credentials", "isFull", "()Z"⟩, Cond.sameMethod "SecretBroker$Credentials" "SecretBroker$Leased" "isFull" "()Z", Cond.selects RX1 ⟨"SecretBroker$Credentials", "isFull", "()Z"⟩ yX2_isFull, Cond.methodLink RX7 181 yX6_takeUse, Cond.instanceMethod yX6_takeUse, Cond.selects RX6 yX6_takeUse yX6_takeUse]
def wsL_law0_r19 : List Cond := [Cond.code yX6_takeUse cX6_takeUse 2 none, Cond.methodLink RX7 184 yX7_give, Cond.instanceMethod yX7_give, Cond.selects RX7 yX7_give yX7_give, Cond.code yX7_give cX7_give 6 (some .int), Cond.methodLink RX7 280 yX3_minutesAt, Cond.instanceMethod yX3_minutesAt, Cond.selects RX3 yX3_minutesAt yX3_minutesAt, Cond.code yX3_minutesAt cX3_minutesAt 2 (some .int), Cond.methodLink RX3 35 yX3_has, Cond.instanceMethod yX3_has, Cond.selects RX3 yX3_has yX3_has, Cond.code yX3_has cX3_has 2 (some .boolean), Cond.methodLink RX7 283 yX3_boundAt, Cond.instanceMethod yX3_boundAt, Cond.selects RX3 yX3_boundAt yX3_boundAt, Cond.code yX3_boundAt cX3_boundAt 2 (some .int), Cond.methodLink RX7 286 ⟨"SecretBroker$Credentials", "add", "(III)I"⟩, Cond.sameMethod "SecretBroker$Credentials" "SecretBroker$Leased" "add" "(III)I", Cond.selects RX1 ⟨"SecretBroker$Credentials", "add", "(III)I"⟩ yX2_add, Cond.methodLink RX7 287 yX1_describe, Cond.instanceMethod yX1_describe, Cond.selects RX1 yX1_describe yX1_describe, Cond.code yX1_describe cX1_describe 4 none]
def wsL_law0_r20 : List Cond := [Cond.methodLink RL 71 yX7_kindOf, Cond.instanceMethod yX7_kindOf, Cond.selects RX7 yX7_kindOf yX7_kindOf, Cond.code yX7_kindOf cX7_kindOf 2 (some .int), Cond.methodLink RX7 224 yX7_checkEntry, Cond.instanceMethod yX7_checkEntry, Cond.selects RX7 yX7_checkEntry yX7_checkEntry, Cond.code yX7_checkEntry cX7_checkEntry 2 none, Cond.methodLink RX7 254 yX0_has, Cond.instanceMethod yX0_has, Cond.selects RX0 yX0_has yX0_has, Cond.code yX0_has cX0_has 2 (some .boolean), Cond.methodLink RX7 227 yX0_kindAt, Cond.instanceMethod yX0_kindAt, Cond.selects RX0 yX0_kindAt yX0_kindAt, Cond.code yX0_kindAt cX0_kindAt 2 (some .int), Cond.methodLink RX0 41 yX0_has, Cond.methodLink RL 163 yL_writes, Cond.static yL_writes, Cond.code yL_writes cL_writes 7 (some .boolean), Cond.constantLong RL 80 (31), Cond.constantLong RL 82 (1000003), Cond.methodLink RL 84 yX7_entries, Cond.instanceMethod yX7_entries]
def wsL_law0_r21 : List Cond := [Cond.selects RX7 yX7_entries yX7_entries, Cond.code yX7_entries cX7_entries 1 (some .int), Cond.methodLink RX7 223 yX0_count, Cond.instanceMethod yX0_count, Cond.selects RX0 yX0_count yX0_count, Cond.code yX0_count cX0_count 1 (some .int), Cond.methodLink RL 88 yX7_subjectOf, Cond.instanceMethod yX7_subjectOf, Cond.selects RX7 yX7_subjectOf yX7_subjectOf, Cond.code yX7_subjectOf cX7_subjectOf 2 (some .int), Cond.methodLink RX7 230 yX0_subjectAt, Cond.instanceMethod yX0_subjectAt, Cond.selects RX0 yX0_subjectAt yX0_subjectAt, Cond.code yX0_subjectAt cX0_subjectAt 2 (some .int), Cond.methodLink RL 91 yX7_detailOf, Cond.instanceMethod yX7_detailOf, Cond.selects RX7 yX7_detailOf yX7_detailOf, Cond.code yX7_detailOf cX7_detailOf 2 (some .int), Cond.methodLink RX7 233 yX0_detailAt, Cond.instanceMethod yX0_detailAt, Cond.selects RX0 yX0_detailAt yX0_detailAt, Cond.code yX0_detailAt cX0_detailAt 2 (some .int), Cond.methodLink RL 94 yX7_sumOf, Cond.instanceMethod yX7_sumOf]
def wsL_law0_r22 : List Cond := [Cond.selects RX7 yX7_sumOf yX7_sumOf, Cond.code yX7_sumOf cX7_sumOf 2 (some .long), Cond.methodLink RX7 236 yX0_sumAt, Cond.instanceMethod yX0_sumAt, Cond.selects RX0 yX0_sumAt yX0_sumAt, Cond.code yX0_sumAt cX0_sumAt 2 (some .long), Cond.methodLink RL 167 yL_why, Cond.static yL_why, Cond.code yL_why cL_why 8 (some .int), Cond.methodLink RL 35 yL_mountFor, Cond.static yL_mountFor, Cond.code yL_mountFor cL_mountFor 5 (some .int), Cond.methodLink RL 31 yL_isBelow, Cond.static yL_isBelow, Cond.code yL_isBelow cL_isBelow 3 (some .boolean), Cond.methodLink RL 16 yL_digits, Cond.static yL_digits, Cond.code yL_digits cL_digits 2 (some .int), Cond.methodLink RL 10 yL_ten, Cond.static yL_ten, Cond.code yL_ten cL_ten 3 (some .int), Cond.methodLink RL 39 yL_can, Cond.static yL_can, Cond.code yL_can cL_can 12 (some .int)]
def wsL_law0_r23 : List Cond := [Cond.methodLink RL 19 yL_fit, Cond.static yL_fit, Cond.code yL_fit cL_fit 8 (some .int), Cond.methodLink RL 171 yX7_whyDenied, Cond.instanceMethod yX7_whyDenied, Cond.selects RX7 yX7_whyDenied yX7_whyDenied, Cond.code yX7_whyDenied cX7_whyDenied 3 (some .int), Cond.methodLink RL 174 yX7_capabilities, Cond.instanceMethod yX7_capabilities, Cond.selects RX7 yX7_capabilities yX7_capabilities, Cond.code yX7_capabilities cX7_capabilities 3 (some .int), Cond.methodLink RL 177 yX7_revokeBelow, Cond.instanceMethod yX7_revokeBelow, Cond.selects RX7 yX7_revokeBelow yX7_revokeBelow, Cond.code yX7_revokeBelow cX7_revokeBelow 3 (some .int), Cond.methodLink RX7 198 yX1_endBelow, Cond.instanceMethod yX1_endBelow, Cond.selects RX1 yX1_endBelow yX1_endBelow, Cond.code yX1_endBelow cX1_endBelow 4 (some .int), Cond.methodLink RX1 29 yX4_isBelow, Cond.methodLink RL 180 yX7_pass, Cond.instanceMethod yX7_pass, Cond.selects RX7 yX7_pass yX7_pass, Cond.code yX7_pass cX7_pass 3 (some .int)]
def wsL_law0_r24 : List Cond := [Cond.methodLink RX7 204 ⟨"SecretBroker$Tokens", "endByTime", "(I)I"⟩, Cond.sameMethod "SecretBroker$Tokens" "SecretBroker$Leased" "endByTime" "(I)I", Cond.selects RX6 ⟨"SecretBroker$Tokens", "endByTime", "(I)I"⟩ yX2_endByTime, Cond.instanceMethod yX2_endByTime, Cond.code yX2_endByTime cX2_endByTime 4 (some .int), Cond.methodLink RX2 48 ⟨"SecretBroker$Leased", "end", "(I)I"⟩, Cond.sameMethod "SecretBroker$Leased" "SecretBroker$Leased" "end" "(I)I", Cond.selects RX1 ⟨"SecretBroker$Leased", "end", "(I)I"⟩ yX2_end, Cond.selects RX6 ⟨"SecretBroker$Leased", "end", "(I)I"⟩ yX2_end, Cond.methodLink RX7 207 ⟨"SecretBroker$Credentials", "endByTime", "(I)I"⟩, Cond.sameMethod "SecretBroker$Credentials" "SecretBroker$Leased" "endByTime" "(I)I", Cond.selects RX1 ⟨"SecretBroker$Credentials", "endByTime", "(I)I"⟩ yX2_endByTime, Cond.methodLink RL 183 yL_same, Cond.static yL_same, Cond.code yL_same cL_same 11 (some .boolean), Cond.methodLink RL 98 yX7_isAlive, Cond.instanceMethod yX7_isAlive, Cond.selects RX7 yX7_isAlive yX7_isAlive, Cond.code yX7_isAlive cX7_isAlive 2 (some .boolean), Cond.methodLink RL 102 yX7_parentOf, Cond.instanceMethod yX7_parentOf, Cond.selects RX7 yX7_parentOf yX7_parentOf, Cond.code yX7_parentOf cX7_parentOf 2 (some .int), Cond.methodLink RX7 161 yX6_parentAt]
def wsL_law0_r25 : List Cond := [Cond.instanceMethod yX6_parentAt, Cond.selects RX6 yX6_parentAt yX6_parentAt, Cond.code yX6_parentAt cX6_parentAt 2 (some .int), Cond.methodLink RL 105 yX7_endOf, Cond.instanceMethod yX7_endOf, Cond.selects RX7 yX7_endOf yX7_endOf, Cond.code yX7_endOf cX7_endOf 2 (some .int), Cond.methodLink RL 108 yX7_usesLeft, Cond.instanceMethod yX7_usesLeft, Cond.selects RX7 yX7_usesLeft yX7_usesLeft, Cond.code yX7_usesLeft cX7_usesLeft 2 (some .int), Cond.methodLink RL 111 yX7_works, Cond.instanceMethod yX7_works, Cond.selects RX7 yX7_works yX7_works, Cond.code yX7_works cX7_works 2 (some .boolean), Cond.methodLink RL 116 yX7_below, Cond.instanceMethod yX7_below, Cond.selects RX7 yX7_below yX7_below, Cond.code yX7_below cX7_below 2 (some .int), Cond.methodLink RX7 167 yX6_livingBelow, Cond.instanceMethod yX6_livingBelow, Cond.selects RX6 yX6_livingBelow yX6_livingBelow, Cond.code yX6_livingBelow cX6_livingBelow 4 (some .int), Cond.methodLink RX6 44 yX6_hangsBelow]
def wsL_law0_r26 : List Cond := [Cond.instanceMethod yX6_hangsBelow, Cond.selects RX6 yX6_hangsBelow yX6_hangsBelow, Cond.code yX6_hangsBelow cX6_hangsBelow 5 (some .boolean), Cond.methodLink RX6 48 yX6_parentAt, Cond.methodLink RL 123 yX7_tokens, Cond.instanceMethod yX7_tokens, Cond.selects RX7 yX7_tokens yX7_tokens, Cond.code yX7_tokens cX7_tokens 1 (some .int), Cond.methodLink RL 130 yX7_credentials, Cond.instanceMethod yX7_credentials, Cond.selects RX7 yX7_credentials yX7_credentials, Cond.code yX7_credentials cX7_credentials 1 (some .int), Cond.methodLink RL 137 yX7_nextEnd, Cond.instanceMethod yX7_nextEnd, Cond.selects RX7 yX7_nextEnd yX7_nextEnd, Cond.code yX7_nextEnd cX7_nextEnd 3 (some .int), Cond.methodLink RX7 215 Lib.Math.max.name, Cond.methodLink RX7 220 Lib.Math.min.name, Cond.methodLink RX7 211 ⟨"SecretBroker$Tokens", "firstEnd", "()I"⟩, Cond.sameMethod "SecretBroker$Tokens" "SecretBroker$Leased" "firstEnd" "()I", Cond.selects RX6 ⟨"SecretBroker$Tokens", "firstEnd", "()I"⟩ yX2_firstEnd, Cond.instanceMethod yX2_firstEnd, Cond.code yX2_firstEnd cX2_firstEnd 3 (some .int), Cond.methodLink RX7 214 ⟨"SecretBroker$Credentials", "firstEnd", "()I"⟩]
def wsL_law0_r27 : List Cond := [Cond.sameMethod "SecretBroker$Credentials" "SecretBroker$Leased" "firstEnd" "()I", Cond.selects RX1 ⟨"SecretBroker$Credentials", "firstEnd", "()I"⟩ yX2_firstEnd, Cond.methodLink RL 140 yX7_time, Cond.instanceMethod yX7_time, Cond.selects RX7 yX7_time yX7_time, Cond.code yX7_time cX7_time 1 (some .int)]
def wsL_law0 : List Cond := (wsL_law0_r1 ++ (wsL_law0_r2 ++ (wsL_law0_r3 ++ (wsL_law0_r4 ++ (wsL_law0_r5 ++ (wsL_law0_r6 ++ (wsL_law0_r7 ++ (wsL_law0_r8 ++ (wsL_law0_r9 ++ (wsL_law0_r10 ++ (wsL_law0_r11 ++ (wsL_law0_r12 ++ (wsL_law0_r13 ++ (wsL_law0_r14 ++ (wsL_law0_r15 ++ (wsL_law0_r16 ++ (wsL_law0_r17 ++ (wsL_law0_r18 ++ (wsL_law0_r19 ++ (wsL_law0_r20 ++ (wsL_law0_r21 ++ (wsL_law0_r22 ++ (wsL_law0_r23 ++ (wsL_law0_r24 ++ (wsL_law0_r25 ++ (wsL_law0_r26 ++ wsL_law0_r27)))))))))))))))))))))))))) ++ wsX70 ++ wsX50 ++ wsX30 ++ wsX60 ++ wsX10 ++ wsX00 ++ ([] : List Cond)
def wsL_law : List Cond := wsL_law0 ++ (vx_atS RX7 56 "java/lang/IllegalStateException" ["java/lang/RuntimeException", "java/lang/Exception"]).filter goodWord ++ (vx_atS RX7 76 "java/lang/IllegalArgumentException" ["java/lang/RuntimeException", "java/lang/Exception"]).filter goodWord ++ (vx_atS RX7 247 "java/lang/IndexOutOfBoundsException" ["java/lang/RuntimeException", "java/lang/Exception"]).filter goodWord
theorem inJ9 : ∀ w ∈ wsJ90, w ∈ lw_tbl := by decide +kernel
theorem inJ0 : ∀ w ∈ wsJ00, w ∈ lw_tbl := by decide +kernel
abbrev vwCl : List vw_C := [(RX0, TX0, 5), (RX1, TX1, 8), (RX3, TX3, 4), (RX5, TX5, 5), (RX6, TX6, 9), (RX7, TX7, 6)]
end
section
theorem dX0_init_0 : decode cX0_init 0 = .ok (.aload_n 0, 1) := by decide +kernel
theorem dX0_init_1 : decode cX0_init 1 = .ok (.invokespecial 3, 3) := by decide +kernel
theorem dX0_init_4 : decode cX0_init 4 = .ok (.aload_n 0, 1) := by decide +kernel
theorem dX0_init_5 : decode cX0_init 5 = .ok (.sipush 513, 3) := by decide +kernel
theorem dX0_init_8 : decode cX0_init 8 = .ok (.newarray .int, 2) := by decide +kernel
theorem dX0_init_10 : decode cX0_init 10 = .ok (.putfield 9, 3) := by decide +kernel
theorem dX0_init_13 : decode cX0_init 13 = .ok (.aload_n 0, 1) := by decide +kernel
theorem dX0_init_14 : decode cX0_init 14 = .ok (.sipush 513, 3) := by decide +kernel
theorem dX0_init_17 : decode cX0_init 17 = .ok (.newarray .int, 2) := by decide +kernel
theorem dX0_init_19 : decode cX0_init 19 = .ok (.putfield 15, 3) := by decide +kernel
theorem dX0_init_22 : decode cX0_init 22 = .ok (.aload_n 0, 1) := by decide +kernel
theorem dX0_init_23 : decode cX0_init 23 = .ok (.sipush 513, 3) := by decide +kernel
theorem dX0_init_26 : decode cX0_init 26 = .ok (.newarray .int, 2) := by decide +kernel
theorem dX0_init_28 : decode cX0_init 28 = .ok (.putfield 18, 3) := by decide +kernel
theorem dX0_init_31 : decode cX0_init 31 = .ok (.aload_n 0, 1) := by decide +kernel
theorem dX0_init_32 : decode cX0_init 32 = .ok (.sipush 513, 3) := by decide +kernel
theorem dX0_init_35 : decode cX0_init 35 = .ok (.newarray .long, 2) := by decide +kernel
theorem dX0_init_37 : decode cX0_init 37 = .ok (.putfield 21, 3) := by decide +kernel
theorem dX0_init_40 : decode cX0_init 40 = .ok (.aload_n 0, 1) := by decide +kernel
theorem dX0_init_41 : decode cX0_init 41 = .ok (.iconst 0, 1) := by decide +kernel
theorem dX0_init_42 : decode cX0_init 42 = .ok (.putfield 25, 3) := by decide +kernel
theorem dX0_init_45 : decode cX0_init 45 = .ok (.return_, 1) := by decide +kernel
theorem dX0_count_0 : decode cX0_count 0 = .ok (.aload_n 0, 1) := by decide +kernel
theorem dX0_count_1 : decode cX0_count 1 = .ok (.getfield 25, 3) := by decide +kernel
theorem dX0_count_4 : decode cX0_count 4 = .ok (.ireturn, 1) := by decide +kernel
theorem dX0_has_0 : decode cX0_has 0 = .ok (.iload_n 1, 1) := by decide +kernel
theorem dX0_has_1 : decode cX0_has 1 = .ok (.ifCond .lt 15, 3) := by decide +kernel
theorem dX0_has_4 : decode cX0_has 4 = .ok (.iload_n 1, 1) := by decide +kernel
theorem dX0_has_5 : decode cX0_has 5 = .ok (.aload_n 0, 1) := by decide +kernel
theorem dX0_has_6 : decode cX0_has 6 = .ok (.getfield 25, 3) := by decide +kernel
theorem dX0_has_9 : decode cX0_has 9 = .ok (.if_icmp .ge 7, 3) := by decide +kernel
theorem dX0_has_12 : decode cX0_has 12 = .ok (.iconst 1, 1) := by decide +kernel
theorem dX0_has_13 : decode cX0_has 13 = .ok (.goto 4, 3) := by decide +kernel
theorem dX0_has_16 : decode cX0_has 16 = .ok (.iconst 0, 1) := by decide +kernel
theorem dX0_has_17 : decode cX0_has 17 = .ok (.ireturn, 1) := by decide +kernel
theorem dX0_write_0 : decode cX0_write 0 = .ok (.aload_n 0, 1) := by decide +kernel
theorem dX0_write_1 : decode cX0_write 1 = .ok (.getfield 25, 3) := by decide +kernel
theorem dX0_write_4 : decode cX0_write 4 = .ok (.sipush 513, 3) := by decide +kernel
theorem dX0_write_7 : decode cX0_write 7 = .ok (.if_icmp .lt 4, 3) := by decide +kernel
theorem dX0_write_10 : decode cX0_write 10 = .ok (.return_, 1) := by decide +kernel
theorem dX0_write_11 : decode cX0_write 11 = .ok (.aload_n 0, 1) := by decide +kernel
theorem dX0_write_12 : decode cX0_write 12 = .ok (.getfield 25, 3) := by decide +kernel
theorem dX0_write_15 : decode cX0_write 15 = .ok (.ifCond .ne 9, 3) := by decide +kernel
theorem dX0_write_18 : decode cX0_write 18 = .ok (.ldc2_w 29, 3) := by decide +kernel
theorem dX0_write_21 : decode cX0_write 21 = .ok (.goto 14, 3) := by decide +kernel
theorem dX0_write_24 : decode cX0_write 24 = .ok (.aload_n 0, 1) := by decide +kernel
theorem dX0_write_25 : decode cX0_write 25 = .ok (.getfield 21, 3) := by decide +kernel
theorem dX0_write_28 : decode cX0_write 28 = .ok (.aload_n 0, 1) := by decide +kernel
theorem dX0_write_29 : decode cX0_write 29 = .ok (.getfield 25, 3) := by decide +kernel
theorem dX0_write_32 : decode cX0_write 32 = .ok (.iconst 1, 1) := by decide +kernel
theorem dX0_write_33 : decode cX0_write 33 = .ok (.isub, 1) := by decide +kernel
theorem dX0_write_34 : decode cX0_write 34 = .ok (.laload, 1) := by decide +kernel
theorem dX0_write_35 : decode cX0_write 35 = .ok (.lstore 5, 2) := by decide +kernel
theorem dX0_write_37 : decode cX0_write 37 = .ok (.aload_n 0, 1) := by decide +kernel
theorem dX0_write_38 : decode cX0_write 38 = .ok (.getfield 9, 3) := by decide +kernel
theorem dX0_write_41 : decode cX0_write 41 = .ok (.aload_n 0, 1) := by decide +kernel
theorem dX0_write_42 : decode cX0_write 42 = .ok (.getfield 25, 3) := by decide +kernel
theorem dX0_write_45 : decode cX0_write 45 = .ok (.iload_n 1, 1) := by decide +kernel
theorem dX0_write_46 : decode cX0_write 46 = .ok (.iastore, 1) := by decide +kernel
theorem dX0_write_47 : decode cX0_write 47 = .ok (.aload_n 0, 1) := by decide +kernel
theorem dX0_write_48 : decode cX0_write 48 = .ok (.getfield 15, 3) := by decide +kernel
theorem dX0_write_51 : decode cX0_write 51 = .ok (.aload_n 0, 1) := by decide +kernel
theorem dX0_write_52 : decode cX0_write 52 = .ok (.getfield 25, 3) := by decide +kernel
theorem dX0_write_55 : decode cX0_write 55 = .ok (.iload_n 2, 1) := by decide +kernel
theorem dX0_write_56 : decode cX0_write 56 = .ok (.iastore, 1) := by decide +kernel
theorem dX0_write_57 : decode cX0_write 57 = .ok (.aload_n 0, 1) := by decide +kernel
theorem dX0_write_58 : decode cX0_write 58 = .ok (.getfield 18, 3) := by decide +kernel
theorem dX0_write_61 : decode cX0_write 61 = .ok (.aload_n 0, 1) := by decide +kernel
theorem dX0_write_62 : decode cX0_write 62 = .ok (.getfield 25, 3) := by decide +kernel
theorem dX0_write_65 : decode cX0_write 65 = .ok (.iload_n 3, 1) := by decide +kernel
theorem dX0_write_66 : decode cX0_write 66 = .ok (.iastore, 1) := by decide +kernel
theorem dX0_write_67 : decode cX0_write 67 = .ok (.aload_n 0, 1) := by decide +kernel
theorem dX0_write_68 : decode cX0_write 68 = .ok (.getfield 21, 3) := by decide +kernel
theorem dX0_write_71 : decode cX0_write 71 = .ok (.aload_n 0, 1) := by decide +kernel
theorem dX0_write_72 : decode cX0_write 72 = .ok (.getfield 25, 3) := by decide +kernel
theorem dX0_write_75 : decode cX0_write 75 = .ok (.ldc2_w 31, 3) := by decide +kernel
theorem dX0_write_78 : decode cX0_write 78 = .ok (.lload 5, 2) := by decide +kernel
theorem dX0_write_80 : decode cX0_write 80 = .ok (.lmul, 1) := by decide +kernel
theorem dX0_write_81 : decode cX0_write 81 = .ok (.ldc2_w 33, 3) := by decide +kernel
theorem dX0_write_84 : decode cX0_write 84 = .ok (.iload_n 1, 1) := by decide +kernel
theorem dX0_write_85 : decode cX0_write 85 = .ok (.i2l, 1) := by decide +kernel
theorem dX0_write_86 : decode cX0_write 86 = .ok (.lmul, 1) := by decide +kernel
theorem dX0_write_87 : decode cX0_write 87 = .ok (.ladd, 1) := by decide +kernel
theorem dX0_write_88 : decode cX0_write 88 = .ok (.ldc2_w 35, 3) := by decide +kernel
theorem dX0_write_91 : decode cX0_write 91 = .ok (.iload_n 2, 1) := by decide +kernel
theorem dX0_write_92 : decode cX0_write 92 = .ok (.i2l, 1) := by decide +kernel
theorem dX0_write_93 : decode cX0_write 93 = .ok (.lmul, 1) := by decide +kernel
theorem dX0_write_94 : decode cX0_write 94 = .ok (.ladd, 1) := by decide +kernel
theorem dX0_write_95 : decode cX0_write 95 = .ok (.ldc2_w 37, 3) := by decide +kernel
theorem dX0_write_98 : decode cX0_write 98 = .ok (.iload_n 3, 1) := by decide +kernel
theorem dX0_write_99 : decode cX0_write 99 = .ok (.i2l, 1) := by decide +kernel
theorem dX0_write_100 : decode cX0_write 100 = .ok (.lmul, 1) := by decide +kernel
theorem dX0_write_101 : decode cX0_write 101 = .ok (.ladd, 1) := by decide +kernel
theorem dX0_write_102 : decode cX0_write 102 = .ok (.iload 4, 2) := by decide +kernel
theorem dX0_write_104 : decode cX0_write 104 = .ok (.i2l, 1) := by decide +kernel
theorem dX0_write_105 : decode cX0_write 105 = .ok (.ladd, 1) := by decide +kernel
theorem dX0_write_106 : decode cX0_write 106 = .ok (.ldc2_w 39, 3) := by decide +kernel
theorem dX0_write_109 : decode cX0_write 109 = .ok (.lrem, 1) := by decide +kernel
theorem dX0_write_110 : decode cX0_write 110 = .ok (.lastore, 1) := by decide +kernel
theorem dX0_write_111 : decode cX0_write 111 = .ok (.aload_n 0, 1) := by decide +kernel
theorem dX0_write_112 : decode cX0_write 112 = .ok (.dup, 1) := by decide +kernel
theorem dX0_write_113 : decode cX0_write 113 = .ok (.getfield 25, 3) := by decide +kernel
theorem dX0_write_116 : decode cX0_write 116 = .ok (.iconst 1, 1) := by decide +kernel
theorem dX0_write_117 : decode cX0_write 117 = .ok (.iadd, 1) := by decide +kernel
theorem dX0_write_118 : decode cX0_write 118 = .ok (.putfield 25, 3) := by decide +kernel
theorem dX0_write_121 : decode cX0_write 121 = .ok (.return_, 1) := by decide +kernel
set_option maxRecDepth 20000 in
theorem ggX0_kindAt_X0_has : GoodIn wsX0_kindAt wsX0_has := goodIn_r _ [6, 7, 8, 9, 10, 11, 12] (by decide +kernel) (by decide +kernel)
set_option maxRecDepth 20000 in
theorem gX0_kindAt_X0_has : GoodIn wsX0_kindAt (wsV RX0 41 RX0 yX0_has wsX0_has) := goodIn_app (goodIn_of _ (by decide +kernel)) ggX0_kindAt_X0_has
theorem dX0_kindAt_0 : decode cX0_kindAt 0 = .ok (.aload_n 0, 1) := by decide +kernel
theorem dX0_kindAt_1 : decode cX0_kindAt 1 = .ok (.iload_n 1, 1) := by decide +kernel
theorem dX0_kindAt_2 : decode cX0_kindAt 2 = .ok (.invokevirtual 41, 3) := by decide +kernel
theorem dX0_kindAt_5 : decode cX0_kindAt 5 = .ok (.ifCond .eq 12, 3) := by decide +kernel
theorem dX0_kindAt_8 : decode cX0_kindAt 8 = .ok (.aload_n 0, 1) := by decide +kernel
theorem dX0_kindAt_9 : decode cX0_kindAt 9 = .ok (.getfield 9, 3) := by decide +kernel
theorem dX0_kindAt_12 : decode cX0_kindAt 12 = .ok (.iload_n 1, 1) := by decide +kernel
theorem dX0_kindAt_13 : decode cX0_kindAt 13 = .ok (.iaload, 1) := by decide +kernel
theorem dX0_kindAt_14 : decode cX0_kindAt 14 = .ok (.goto 4, 3) := by decide +kernel
theorem dX0_kindAt_17 : decode cX0_kindAt 17 = .ok (.iconst 0, 1) := by decide +kernel
theorem dX0_kindAt_18 : decode cX0_kindAt 18 = .ok (.ireturn, 1) := by decide +kernel
set_option maxRecDepth 20000 in
theorem ggX0_subjectAt_X0_has : GoodIn wsX0_subjectAt wsX0_has := goodIn_r _ [6, 7, 8, 9, 10, 11, 12] (by decide +kernel) (by decide +kernel)
set_option maxRecDepth 20000 in
theorem gX0_subjectAt_X0_has : GoodIn wsX0_subjectAt (wsV RX0 41 RX0 yX0_has wsX0_has) := goodIn_app (goodIn_of _ (by decide +kernel)) ggX0_subjectAt_X0_has
theorem dX0_subjectAt_0 : decode cX0_subjectAt 0 = .ok (.aload_n 0, 1) := by decide +kernel
theorem dX0_subjectAt_1 : decode cX0_subjectAt 1 = .ok (.iload_n 1, 1) := by decide +kernel
theorem dX0_subjectAt_2 : decode cX0_subjectAt 2 = .ok (.invokevirtual 41, 3) := by decide +kernel
theorem dX0_subjectAt_5 : decode cX0_subjectAt 5 = .ok (.ifCond .eq 12, 3) := by decide +kernel
theorem dX0_subjectAt_8 : decode cX0_subjectAt 8 = .ok (.aload_n 0, 1) := by decide +kernel
theorem dX0_subjectAt_9 : decode cX0_subjectAt 9 = .ok (.getfield 15, 3) := by decide +kernel
theorem dX0_subjectAt_12 : decode cX0_subjectAt 12 = .ok (.iload_n 1, 1) := by decide +kernel
theorem dX0_subjectAt_13 : decode cX0_subjectAt 13 = .ok (.iaload, 1) := by decide +kernel
theorem dX0_subjectAt_14 : decode cX0_subjectAt 14 = .ok (.goto 4, 3) := by decide +kernel
theorem dX0_subjectAt_17 : decode cX0_subjectAt 17 = .ok (.iconst 0, 1) := by decide +kernel
theorem dX0_subjectAt_18 : decode cX0_subjectAt 18 = .ok (.ireturn, 1) := by decide +kernel
set_option maxRecDepth 20000 in
theorem ggX0_detailAt_X0_has : GoodIn wsX0_detailAt wsX0_has := goodIn_r _ [6, 7, 8, 9, 10, 11, 12] (by decide +kernel) (by decide +kernel)
set_option maxRecDepth 20000 in
theorem gX0_detailAt_X0_has : GoodIn wsX0_detailAt (wsV RX0 41 RX0 yX0_has wsX0_has) := goodIn_app (goodIn_of _ (by decide +kernel)) ggX0_detailAt_X0_has
theorem dX0_detailAt_0 : decode cX0_detailAt 0 = .ok (.aload_n 0, 1) := by decide +kernel
theorem dX0_detailAt_1 : decode cX0_detailAt 1 = .ok (.iload_n 1, 1) := by decide +kernel
theorem dX0_detailAt_2 : decode cX0_detailAt 2 = .ok (.invokevirtual 41, 3) := by decide +kernel
theorem dX0_detailAt_5 : decode cX0_detailAt 5 = .ok (.ifCond .eq 12, 3) := by decide +kernel
theorem dX0_detailAt_8 : decode cX0_detailAt 8 = .ok (.aload_n 0, 1) := by decide +kernel
theorem dX0_detailAt_9 : decode cX0_detailAt 9 = .ok (.getfield 18, 3) := by decide +kernel
theorem dX0_detailAt_12 : decode cX0_detailAt 12 = .ok (.iload_n 1, 1) := by decide +kernel
theorem dX0_detailAt_13 : decode cX0_detailAt 13 = .ok (.iaload, 1) := by decide +kernel
theorem dX0_detailAt_14 : decode cX0_detailAt 14 = .ok (.goto 4, 3) := by decide +kernel
theorem dX0_detailAt_17 : decode cX0_detailAt 17 = .ok (.iconst 0, 1) := by decide +kernel
theorem dX0_detailAt_18 : decode cX0_detailAt 18 = .ok (.ireturn, 1) := by decide +kernel
set_option maxRecDepth 20000 in
theorem ggX0_sumAt_X0_has : GoodIn wsX0_sumAt wsX0_has := goodIn_r _ [6, 7, 8, 9, 10, 11, 12] (by decide +kernel) (by decide +kernel)
set_option maxRecDepth 20000 in
theorem gX0_sumAt_X0_has : GoodIn wsX0_sumAt (wsV RX0 41 RX0 yX0_has wsX0_has) := goodIn_app (goodIn_of _ (by decide +kernel)) ggX0_sumAt_X0_has
theorem dX0_sumAt_0 : decode cX0_sumAt 0 = .ok (.aload_n 0, 1) := by decide +kernel
theorem dX0_sumAt_1 : decode cX0_sumAt 1 = .ok (.iload_n 1, 1) := by decide +kernel
theorem dX0_sumAt_2 : decode cX0_sumAt 2 = .ok (.invokevirtual 41, 3) := by decide +kernel
theorem dX0_sumAt_5 : decode cX0_sumAt 5 = .ok (.ifCond .eq 12, 3) := by decide +kernel
theorem dX0_sumAt_8 : decode cX0_sumAt 8 = .ok (.aload_n 0, 1) := by decide +kernel
theorem dX0_sumAt_9 : decode cX0_sumAt 9 = .ok (.getfield 21, 3) := by decide +kernel
theorem dX0_sumAt_12 : decode cX0_sumAt 12 = .ok (.iload_n 1, 1) := by decide +kernel
theorem dX0_sumAt_13 : decode cX0_sumAt 13 = .ok (.laload, 1) := by decide +kernel
theorem dX0_sumAt_14 : decode cX0_sumAt 14 = .ok (.goto 4, 3) := by decide +kernel
theorem dX0_sumAt_17 : decode cX0_sumAt 17 = .ok (.lconst 0, 1) := by decide +kernel
theorem dX0_sumAt_18 : decode cX0_sumAt 18 = .ok (.lreturn, 1) := by decide +kernel
set_option maxRecDepth 20000 in
theorem ggX1_init_X2_init : GoodIn wsX1_init wsX2_init := goodIn_r _ [6, 7, 8, 9, 1, 10, 11, 12, 13, 14, 15, 16, 17, 18, 19, 20, 21, 22, 23, 24, 25, 26, 27, 28, 29, 30, 31, 32, 33] (by decide +kernel) (by decide +kernel)
set_option maxRecDepth 20000 in
theorem gX1_init_X2_init_n3 : GoodIn wsX1_init (wsX2_init) := ggX1_init_X2_init
theorem dX1_init_0 : decode cX1_init 0 = .ok (.aload_n 0, 1) := by decide +kernel
theorem dX1_init_1 : decode cX1_init 1 = .ok (.invokespecial 3, 3) := by decide +kernel
theorem dX1_init_4 : decode cX1_init 4 = .ok (.aload_n 0, 1) := by decide +kernel
theorem dX1_init_5 : decode cX1_init 5 = .ok (.sipush 513, 3) := by decide +kernel
theorem dX1_init_8 : decode cX1_init 8 = .ok (.newarray .int, 2) := by decide +kernel
theorem dX1_init_10 : decode cX1_init 10 = .ok (.putfield 9, 3) := by decide +kernel
theorem dX1_init_13 : decode cX1_init 13 = .ok (.aload_n 0, 1) := by decide +kernel
theorem dX1_init_14 : decode cX1_init 14 = .ok (.sipush 513, 3) := by decide +kernel
theorem dX1_init_17 : decode cX1_init 17 = .ok (.newarray .int, 2) := by decide +kernel
theorem dX1_init_19 : decode cX1_init 19 = .ok (.putfield 15, 3) := by decide +kernel
theorem dX1_init_22 : decode cX1_init 22 = .ok (.return_, 1) := by decide +kernel
set_option maxRecDepth 20000 in
theorem ggX1_describe_X2_has : GoodIn wsX1_describe wsX2_has := goodIn_r _ [8, 9, 10, 11, 12, 13, 14, 15, 16, 17, 18, 19, 20, 21, 22, 23, 24, 25, 26] (by decide +kernel) (by decide +kernel)
set_option maxRecDepth 20000 in
theorem gX1_describe_X2_has_u18X1 : GoodIn wsX1_describe (va_wsU RX1 18 RX1 "SecretBroker$Leased" ⟨"SecretBroker$Credentials", "has", "(I)Z"⟩ yX2_has wsX2_has) := goodIn_app (goodIn_of _ (by decide +kernel)) ggX1_describe_X2_has
theorem dX1_describe_0 : decode cX1_describe 0 = .ok (.aload_n 0, 1) := by decide +kernel
theorem dX1_describe_1 : decode cX1_describe 1 = .ok (.iload_n 1, 1) := by decide +kernel
theorem dX1_describe_2 : decode cX1_describe 2 = .ok (.invokevirtual 18, 3) := by decide +kernel
theorem dX1_describe_5 : decode cX1_describe 5 = .ok (.ifCond .eq 17, 3) := by decide +kernel
theorem dX1_describe_8 : decode cX1_describe 8 = .ok (.aload_n 0, 1) := by decide +kernel
theorem dX1_describe_9 : decode cX1_describe 9 = .ok (.getfield 9, 3) := by decide +kernel
theorem dX1_describe_12 : decode cX1_describe 12 = .ok (.iload_n 1, 1) := by decide +kernel
theorem dX1_describe_13 : decode cX1_describe 13 = .ok (.iload_n 2, 1) := by decide +kernel
theorem dX1_describe_14 : decode cX1_describe 14 = .ok (.iastore, 1) := by decide +kernel
theorem dX1_describe_15 : decode cX1_describe 15 = .ok (.aload_n 0, 1) := by decide +kernel
theorem dX1_describe_16 : decode cX1_describe 16 = .ok (.getfield 15, 3) := by decide +kernel
theorem dX1_describe_19 : decode cX1_describe 19 = .ok (.iload_n 1, 1) := by decide +kernel
theorem dX1_describe_20 : decode cX1_describe 20 = .ok (.iload_n 3, 1) := by decide +kernel
theorem dX1_describe_21 : decode cX1_describe 21 = .ok (.iastore, 1) := by decide +kernel
theorem dX1_describe_22 : decode cX1_describe 22 = .ok (.return_, 1) := by decide +kernel
set_option maxRecDepth 20000 in
theorem ggX1_ownerAt_X2_has : GoodIn wsX1_ownerAt wsX2_has := goodIn_r _ [7, 8, 9, 10, 11, 12, 13, 14, 15, 16, 17, 18, 19, 20, 21, 22, 23, 24, 25] (by decide +kernel) (by decide +kernel)
set_option maxRecDepth 20000 in
theorem gX1_ownerAt_X2_has_u18X1 : GoodIn wsX1_ownerAt (va_wsU RX1 18 RX1 "SecretBroker$Leased" ⟨"SecretBroker$Credentials", "has", "(I)Z"⟩ yX2_has wsX2_has) := goodIn_app (goodIn_of _ (by decide +kernel)) ggX1_ownerAt_X2_has
theorem dX1_ownerAt_0 : decode cX1_ownerAt 0 = .ok (.aload_n 0, 1) := by decide +kernel
theorem dX1_ownerAt_1 : decode cX1_ownerAt 1 = .ok (.iload_n 1, 1) := by decide +kernel
theorem dX1_ownerAt_2 : decode cX1_ownerAt 2 = .ok (.invokevirtual 18, 3) := by decide +kernel
theorem dX1_ownerAt_5 : decode cX1_ownerAt 5 = .ok (.ifCond .eq 12, 3) := by decide +kernel
theorem dX1_ownerAt_8 : decode cX1_ownerAt 8 = .ok (.aload_n 0, 1) := by decide +kernel
theorem dX1_ownerAt_9 : decode cX1_ownerAt 9 = .ok (.getfield 9, 3) := by decide +kernel
theorem dX1_ownerAt_12 : decode cX1_ownerAt 12 = .ok (.iload_n 1, 1) := by decide +kernel
theorem dX1_ownerAt_13 : decode cX1_ownerAt 13 = .ok (.iaload, 1) := by decide +kernel
theorem dX1_ownerAt_14 : decode cX1_ownerAt 14 = .ok (.goto 4, 3) := by decide +kernel
theorem dX1_ownerAt_17 : decode cX1_ownerAt 17 = .ok (.iconst (-1), 1) := by decide +kernel
theorem dX1_ownerAt_18 : decode cX1_ownerAt 18 = .ok (.ireturn, 1) := by decide +kernel
set_option maxRecDepth 20000 in
theorem ggX1_livingOf_X2_made : GoodIn wsX1_livingOf wsX2_made := goodIn_r _ [7, 8, 21, 22, 23, 24, 25, 26, 27, 28, 29, 30, 31, 32, 33, 34, 35, 36, 37] (by decide +kernel) (by decide +kernel)
set_option maxRecDepth 20000 in
theorem gX1_livingOf_X2_made_u22X1 : GoodIn wsX1_livingOf (va_wsU RX1 22 RX1 "SecretBroker$Leased" ⟨"SecretBroker$Credentials", "made", "()I"⟩ yX2_made wsX2_made) := goodIn_app (goodIn_of _ (by decide +kernel)) ggX1_livingOf_X2_made
set_option maxRecDepth 20000 in
theorem ggX1_livingOf_X2_isOn : GoodIn wsX1_livingOf wsX2_isOn := goodIn_r _ [13, 14, 15, 16, 17, 18, 6, 19, 8, 20, 21, 22, 23, 24, 25, 26, 27, 28, 29, 30, 31, 32, 33, 34, 35, 36, 37] (by decide +kernel) (by decide +kernel)
set_option maxRecDepth 20000 in
theorem gX1_livingOf_X2_isOn_u26X1 : GoodIn wsX1_livingOf (va_wsU RX1 26 RX1 "SecretBroker$Leased" ⟨"SecretBroker$Credentials", "isOn", "(I)Z"⟩ yX2_isOn wsX2_isOn) := goodIn_app (goodIn_of _ (by decide +kernel)) ggX1_livingOf_X2_isOn
theorem dX1_livingOf_0 : decode cX1_livingOf 0 = .ok (.iconst 0, 1) := by decide +kernel
theorem dX1_livingOf_1 : decode cX1_livingOf 1 = .ok (.istore_n 2, 1) := by decide +kernel
theorem dX1_livingOf_2 : decode cX1_livingOf 2 = .ok (.iconst 0, 1) := by decide +kernel
theorem dX1_livingOf_3 : decode cX1_livingOf 3 = .ok (.istore_n 3, 1) := by decide +kernel
theorem dX1_livingOf_4 : decode cX1_livingOf 4 = .ok (.iload_n 3, 1) := by decide +kernel
theorem dX1_livingOf_5 : decode cX1_livingOf 5 = .ok (.aload_n 0, 1) := by decide +kernel
theorem dX1_livingOf_6 : decode cX1_livingOf 6 = .ok (.invokevirtual 22, 3) := by decide +kernel
theorem dX1_livingOf_9 : decode cX1_livingOf 9 = .ok (.if_icmp .ge 30, 3) := by decide +kernel
theorem dX1_livingOf_12 : decode cX1_livingOf 12 = .ok (.aload_n 0, 1) := by decide +kernel
theorem dX1_livingOf_13 : decode cX1_livingOf 13 = .ok (.getfield 9, 3) := by decide +kernel
theorem dX1_livingOf_16 : decode cX1_livingOf 16 = .ok (.iload_n 3, 1) := by decide +kernel
theorem dX1_livingOf_17 : decode cX1_livingOf 17 = .ok (.iaload, 1) := by decide +kernel
theorem dX1_livingOf_18 : decode cX1_livingOf 18 = .ok (.iload_n 1, 1) := by decide +kernel
theorem dX1_livingOf_19 : decode cX1_livingOf 19 = .ok (.if_icmp .ne 14, 3) := by decide +kernel
theorem dX1_livingOf_22 : decode cX1_livingOf 22 = .ok (.aload_n 0, 1) := by decide +kernel
theorem dX1_livingOf_23 : decode cX1_livingOf 23 = .ok (.iload_n 3, 1) := by decide +kernel
theorem dX1_livingOf_24 : decode cX1_livingOf 24 = .ok (.invokevirtual 26, 3) := by decide +kernel
theorem dX1_livingOf_27 : decode cX1_livingOf 27 = .ok (.ifCond .eq 6, 3) := by decide +kernel
theorem dX1_livingOf_30 : decode cX1_livingOf 30 = .ok (.iinc 2 1, 3) := by decide +kernel
theorem dX1_livingOf_33 : decode cX1_livingOf 33 = .ok (.iinc 3 1, 3) := by decide +kernel
theorem dX1_livingOf_36 : decode cX1_livingOf 36 = .ok (.goto (-32), 3) := by decide +kernel
theorem dX1_livingOf_39 : decode cX1_livingOf 39 = .ok (.iload_n 2, 1) := by decide +kernel
theorem dX1_livingOf_40 : decode cX1_livingOf 40 = .ok (.ireturn, 1) := by decide +kernel
set_option maxRecDepth 20000 in
theorem ggX1_endBelow_X2_made : GoodIn wsX1_endBelow wsX2_made := goodIn_r _ [7, 8, 38, 39, 40, 41, 42, 43, 44, 45, 46, 47, 48, 49, 50, 51, 52, 53, 54] (by decide +kernel) (by decide +kernel)
set_option maxRecDepth 20000 in
theorem gX1_endBelow_X2_made_u22X1 : GoodIn wsX1_endBelow (va_wsU RX1 22 RX1 "SecretBroker$Leased" ⟨"SecretBroker$Credentials", "made", "()I"⟩ yX2_made wsX2_made) := goodIn_app (goodIn_of _ (by decide +kernel)) ggX1_endBelow_X2_made
set_option maxRecDepth 20000 in
theorem ggX1_endBelow_X4_isBelow : GoodIn wsX1_endBelow wsX4_isBelow := goodIn_r _ [12, 13, 14, 11, 15, 16, 17, 18] (by decide +kernel) (by decide +kernel)
set_option maxRecDepth 20000 in
theorem gX1_endBelow_X4_isBelow : GoodIn wsX1_endBelow (va_wsS RX1 29 yX4_isBelow wsX4_isBelow) := goodIn_app (goodIn_of _ (by decide +kernel)) ggX1_endBelow_X4_isBelow
set_option maxRecDepth 20000 in
theorem ggX1_endBelow_X2_end : GoodIn wsX1_endBelow wsX2_end := goodIn_r _ [23, 24, 25, 26, 27, 28, 29, 6, 30, 31, 32, 33, 34, 35, 8, 36, 37, 38, 39, 40, 41, 42, 43, 44, 45, 46, 47, 48, 49, 50, 51, 52, 53, 54] (by decide +kernel) (by decide +kernel)
set_option maxRecDepth 20000 in
theorem gX1_endBelow_X2_end_u35X1 : GoodIn wsX1_endBelow (va_wsU RX1 35 RX1 "SecretBroker$Leased" ⟨"SecretBroker$Credentials", "end", "(I)I"⟩ yX2_end wsX2_end) := goodIn_app (goodIn_of _ (by decide +kernel)) ggX1_endBelow_X2_end
theorem dX1_endBelow_0 : decode cX1_endBelow 0 = .ok (.iconst 0, 1) := by decide +kernel
theorem dX1_endBelow_1 : decode cX1_endBelow 1 = .ok (.istore_n 2, 1) := by decide +kernel
theorem dX1_endBelow_2 : decode cX1_endBelow 2 = .ok (.iconst 0, 1) := by decide +kernel
theorem dX1_endBelow_3 : decode cX1_endBelow 3 = .ok (.istore_n 3, 1) := by decide +kernel
theorem dX1_endBelow_4 : decode cX1_endBelow 4 = .ok (.iload_n 3, 1) := by decide +kernel
theorem dX1_endBelow_5 : decode cX1_endBelow 5 = .ok (.aload_n 0, 1) := by decide +kernel
theorem dX1_endBelow_6 : decode cX1_endBelow 6 = .ok (.invokevirtual 22, 3) := by decide +kernel
theorem dX1_endBelow_9 : decode cX1_endBelow 9 = .ok (.if_icmp .ge 30, 3) := by decide +kernel
theorem dX1_endBelow_12 : decode cX1_endBelow 12 = .ok (.aload_n 0, 1) := by decide +kernel
theorem dX1_endBelow_13 : decode cX1_endBelow 13 = .ok (.getfield 15, 3) := by decide +kernel
theorem dX1_endBelow_16 : decode cX1_endBelow 16 = .ok (.iload_n 3, 1) := by decide +kernel
theorem dX1_endBelow_17 : decode cX1_endBelow 17 = .ok (.iaload, 1) := by decide +kernel
theorem dX1_endBelow_18 : decode cX1_endBelow 18 = .ok (.iload_n 1, 1) := by decide +kernel
theorem dX1_endBelow_19 : decode cX1_endBelow 19 = .ok (.invokestatic 29, 3) := by decide +kernel
theorem dX1_endBelow_22 : decode cX1_endBelow 22 = .ok (.ifCond .eq 11, 3) := by decide +kernel
theorem dX1_endBelow_25 : decode cX1_endBelow 25 = .ok (.iload_n 2, 1) := by decide +kernel
theorem dX1_endBelow_26 : decode cX1_endBelow 26 = .ok (.aload_n 0, 1) := by decide +kernel
theorem dX1_endBelow_27 : decode cX1_endBelow 27 = .ok (.iload_n 3, 1) := by decide +kernel
theorem dX1_endBelow_28 : decode cX1_endBelow 28 = .ok (.invokevirtual 35, 3) := by decide +kernel
theorem dX1_endBelow_31 : decode cX1_endBelow 31 = .ok (.iadd, 1) := by decide +kernel
theorem dX1_endBelow_32 : decode cX1_endBelow 32 = .ok (.istore_n 2, 1) := by decide +kernel
theorem dX1_endBelow_33 : decode cX1_endBelow 33 = .ok (.iinc 3 1, 3) := by decide +kernel
theorem dX1_endBelow_36 : decode cX1_endBelow 36 = .ok (.goto (-32), 3) := by decide +kernel
theorem dX1_endBelow_39 : decode cX1_endBelow 39 = .ok (.iload_n 2, 1) := by decide +kernel
theorem dX1_endBelow_40 : decode cX1_endBelow 40 = .ok (.ireturn, 1) := by decide +kernel
set_option maxRecDepth 20000 in
theorem ggX1_endOfEnded_X2_made : GoodIn wsX1_endOfEnded wsX2_made := goodIn_r _ [7, 8, 31, 32, 33, 34, 35, 36, 37, 38, 39, 40, 41, 42, 43, 44, 45, 46, 47] (by decide +kernel) (by decide +kernel)
set_option maxRecDepth 20000 in
theorem gX1_endOfEnded_X2_made_u22X1 : GoodIn wsX1_endOfEnded (va_wsU RX1 22 RX1 "SecretBroker$Leased" ⟨"SecretBroker$Credentials", "made", "()I"⟩ yX2_made wsX2_made) := goodIn_app (goodIn_of _ (by decide +kernel)) ggX1_endOfEnded_X2_made
set_option maxRecDepth 20000 in
theorem ggX1_endOfEnded_X2_isOn : GoodIn wsX1_endOfEnded wsX2_isOn := goodIn_r _ [13, 14, 15, 16, 17, 18, 6, 19, 8, 20, 31, 32, 33, 34, 35, 36, 37, 38, 39, 40, 41, 42, 43, 44, 45, 46, 47] (by decide +kernel) (by decide +kernel)
set_option maxRecDepth 20000 in
theorem gX1_endOfEnded_X2_isOn_u39X6 : GoodIn wsX1_endOfEnded (va_wsU RX1 39 RX6 "SecretBroker$Leased" ⟨"SecretBroker$Tokens", "isOn", "(I)Z"⟩ yX2_isOn wsX2_isOn) := goodIn_app (goodIn_of _ (by decide +kernel)) ggX1_endOfEnded_X2_isOn
set_option maxRecDepth 20000 in
theorem ggX1_endOfEnded_X2_end : GoodIn wsX1_endOfEnded wsX2_end := goodIn_r _ [25, 14, 26, 27, 28, 29, 12, 6, 13, 15, 16, 17, 18, 19, 8, 20, 30, 31, 32, 33, 34, 35, 36, 37, 38, 39, 40, 41, 42, 43, 44, 45, 46, 47] (by decide +kernel) (by decide +kernel)
set_option maxRecDepth 20000 in
theorem gX1_endOfEnded_X2_end_u35X1 : GoodIn wsX1_endOfEnded (va_wsU RX1 35 RX1 "SecretBroker$Leased" ⟨"SecretBroker$Credentials", "end", "(I)I"⟩ yX2_end wsX2_end) := goodIn_app (goodIn_of _ (by decide +kernel)) ggX1_endOfEnded_X2_end
theorem dX1_endOfEnded_0 : decode cX1_endOfEnded 0 = .ok (.iconst 0, 1) := by decide +kernel
theorem dX1_endOfEnded_1 : decode cX1_endOfEnded 1 = .ok (.istore_n 2, 1) := by decide +kernel
theorem dX1_endOfEnded_2 : decode cX1_endOfEnded 2 = .ok (.iconst 0, 1) := by decide +kernel
theorem dX1_endOfEnded_3 : decode cX1_endOfEnded 3 = .ok (.istore_n 3, 1) := by decide +kernel
theorem dX1_endOfEnded_4 : decode cX1_endOfEnded 4 = .ok (.iload_n 3, 1) := by decide +kernel
theorem dX1_endOfEnded_5 : decode cX1_endOfEnded 5 = .ok (.aload_n 0, 1) := by decide +kernel
theorem dX1_endOfEnded_6 : decode cX1_endOfEnded 6 = .ok (.invokevirtual 22, 3) := by decide +kernel
theorem dX1_endOfEnded_9 : decode cX1_endOfEnded 9 = .ok (.if_icmp .ge 30, 3) := by decide +kernel
theorem dX1_endOfEnded_12 : decode cX1_endOfEnded 12 = .ok (.aload_n 1, 1) := by decide +kernel
theorem dX1_endOfEnded_13 : decode cX1_endOfEnded 13 = .ok (.aload_n 0, 1) := by decide +kernel
theorem dX1_endOfEnded_14 : decode cX1_endOfEnded 14 = .ok (.getfield 9, 3) := by decide +kernel
theorem dX1_endOfEnded_17 : decode cX1_endOfEnded 17 = .ok (.iload_n 3, 1) := by decide +kernel
theorem dX1_endOfEnded_18 : decode cX1_endOfEnded 18 = .ok (.iaload, 1) := by decide +kernel
theorem dX1_endOfEnded_19 : decode cX1_endOfEnded 19 = .ok (.invokevirtual 39, 3) := by decide +kernel
theorem dX1_endOfEnded_22 : decode cX1_endOfEnded 22 = .ok (.ifCond .ne 11, 3) := by decide +kernel
theorem dX1_endOfEnded_25 : decode cX1_endOfEnded 25 = .ok (.iload_n 2, 1) := by decide +kernel
theorem dX1_endOfEnded_26 : decode cX1_endOfEnded 26 = .ok (.aload_n 0, 1) := by decide +kernel
theorem dX1_endOfEnded_27 : decode cX1_endOfEnded 27 = .ok (.iload_n 3, 1) := by decide +kernel
theorem dX1_endOfEnded_28 : decode cX1_endOfEnded 28 = .ok (.invokevirtual 35, 3) := by decide +kernel
theorem dX1_endOfEnded_31 : decode cX1_endOfEnded 31 = .ok (.iadd, 1) := by decide +kernel
theorem dX1_endOfEnded_32 : decode cX1_endOfEnded 32 = .ok (.istore_n 2, 1) := by decide +kernel
theorem dX1_endOfEnded_33 : decode cX1_endOfEnded 33 = .ok (.iinc 3 1, 3) := by decide +kernel
theorem dX1_endOfEnded_36 : decode cX1_endOfEnded 36 = .ok (.goto (-32), 3) := by decide +kernel
theorem dX1_endOfEnded_39 : decode cX1_endOfEnded 39 = .ok (.iload_n 2, 1) := by decide +kernel
theorem dX1_endOfEnded_40 : decode cX1_endOfEnded 40 = .ok (.ireturn, 1) := by decide +kernel
theorem dX2_init_0 : decode cX2_init 0 = .ok (.aload_n 0, 1) := by decide +kernel
theorem dX2_init_1 : decode cX2_init 1 = .ok (.invokespecial 3, 3) := by decide +kernel
theorem dX2_init_4 : decode cX2_init 4 = .ok (.aload_n 0, 1) := by decide +kernel
theorem dX2_init_5 : decode cX2_init 5 = .ok (.sipush 513, 3) := by decide +kernel
theorem dX2_init_8 : decode cX2_init 8 = .ok (.newarray .int, 2) := by decide +kernel
theorem dX2_init_10 : decode cX2_init 10 = .ok (.putfield 9, 3) := by decide +kernel
theorem dX2_init_13 : decode cX2_init 13 = .ok (.aload_n 0, 1) := by decide +kernel
theorem dX2_init_14 : decode cX2_init 14 = .ok (.sipush 513, 3) := by decide +kernel
theorem dX2_init_17 : decode cX2_init 17 = .ok (.newarray .int, 2) := by decide +kernel
theorem dX2_init_19 : decode cX2_init 19 = .ok (.putfield 15, 3) := by decide +kernel
theorem dX2_init_22 : decode cX2_init 22 = .ok (.aload_n 0, 1) := by decide +kernel
theorem dX2_init_23 : decode cX2_init 23 = .ok (.sipush 513, 3) := by decide +kernel
theorem dX2_init_26 : decode cX2_init 26 = .ok (.newarray .int, 2) := by decide +kernel
theorem dX2_init_28 : decode cX2_init 28 = .ok (.putfield 18, 3) := by decide +kernel
theorem dX2_init_31 : decode cX2_init 31 = .ok (.aload_n 0, 1) := by decide +kernel
theorem dX2_init_32 : decode cX2_init 32 = .ok (.sipush 513, 3) := by decide +kernel
theorem dX2_init_35 : decode cX2_init 35 = .ok (.newarray .boolean, 2) := by decide +kernel
theorem dX2_init_37 : decode cX2_init 37 = .ok (.putfield 21, 3) := by decide +kernel
theorem dX2_init_40 : decode cX2_init 40 = .ok (.aload_n 0, 1) := by decide +kernel
theorem dX2_init_41 : decode cX2_init 41 = .ok (.iconst 0, 1) := by decide +kernel
theorem dX2_init_42 : decode cX2_init 42 = .ok (.putfield 25, 3) := by decide +kernel
theorem dX2_init_45 : decode cX2_init 45 = .ok (.aload_n 0, 1) := by decide +kernel
theorem dX2_init_46 : decode cX2_init 46 = .ok (.iconst 0, 1) := by decide +kernel
theorem dX2_init_47 : decode cX2_init 47 = .ok (.putfield 29, 3) := by decide +kernel
theorem dX2_init_50 : decode cX2_init 50 = .ok (.return_, 1) := by decide +kernel
theorem dX2_made_0 : decode cX2_made 0 = .ok (.aload_n 0, 1) := by decide +kernel
theorem dX2_made_1 : decode cX2_made 1 = .ok (.getfield 25, 3) := by decide +kernel
theorem dX2_made_4 : decode cX2_made 4 = .ok (.ireturn, 1) := by decide +kernel
theorem dX2_living_0 : decode cX2_living 0 = .ok (.aload_n 0, 1) := by decide +kernel
theorem dX2_living_1 : decode cX2_living 1 = .ok (.getfield 29, 3) := by decide +kernel
theorem dX2_living_4 : decode cX2_living 4 = .ok (.ireturn, 1) := by decide +kernel
theorem dX2_isFull_0 : decode cX2_isFull 0 = .ok (.aload_n 0, 1) := by decide +kernel
theorem dX2_isFull_1 : decode cX2_isFull 1 = .ok (.getfield 25, 3) := by decide +kernel
theorem dX2_isFull_4 : decode cX2_isFull 4 = .ok (.sipush 513, 3) := by decide +kernel
theorem dX2_isFull_7 : decode cX2_isFull 7 = .ok (.if_icmp .lt 7, 3) := by decide +kernel
theorem dX2_isFull_10 : decode cX2_isFull 10 = .ok (.iconst 1, 1) := by decide +kernel
theorem dX2_isFull_11 : decode cX2_isFull 11 = .ok (.goto 4, 3) := by decide +kernel
theorem dX2_isFull_14 : decode cX2_isFull 14 = .ok (.iconst 0, 1) := by decide +kernel
theorem dX2_isFull_15 : decode cX2_isFull 15 = .ok (.ireturn, 1) := by decide +kernel
theorem dX2_has_0 : decode cX2_has 0 = .ok (.iload_n 1, 1) := by decide +kernel
theorem dX2_has_1 : decode cX2_has 1 = .ok (.ifCond .lt 15, 3) := by decide +kernel
theorem dX2_has_4 : decode cX2_has 4 = .ok (.iload_n 1, 1) := by decide +kernel
theorem dX2_has_5 : decode cX2_has 5 = .ok (.aload_n 0, 1) := by decide +kernel
theorem dX2_has_6 : decode cX2_has 6 = .ok (.getfield 25, 3) := by decide +kernel
theorem dX2_has_9 : decode cX2_has 9 = .ok (.if_icmp .ge 7, 3) := by decide +kernel
theorem dX2_has_12 : decode cX2_has 12 = .ok (.iconst 1, 1) := by decide +kernel
theorem dX2_has_13 : decode cX2_has 13 = .ok (.goto 4, 3) := by decide +kernel
theorem dX2_has_16 : decode cX2_has 16 = .ok (.iconst 0, 1) := by decide +kernel
theorem dX2_has_17 : decode cX2_has 17 = .ok (.ireturn, 1) := by decide +kernel
set_option maxRecDepth 20000 in
theorem ggX2_isOn_X2_has : GoodIn wsX2_isOn wsX2_has := goodIn_r _ [7, 8, 10, 11, 12, 13, 14, 15, 16, 17, 18, 19, 20, 21, 22, 23, 24, 25, 26] (by decide +kernel) (by decide +kernel)
set_option maxRecDepth 20000 in
theorem gX2_isOn_X2_has_u32X1 : GoodIn wsX2_isOn (va_wsU RX2 32 RX1 "SecretBroker$Leased" ⟨"SecretBroker$Leased", "has", "(I)Z"⟩ yX2_has wsX2_has) := goodIn_app (goodIn_of _ (by decide +kernel)) ggX2_isOn_X2_has
set_option maxRecDepth 20000 in
theorem gX2_isOn_X2_has_u32X6 : GoodIn wsX2_isOn (va_wsU RX2 32 RX6 "SecretBroker$Leased" ⟨"SecretBroker$Leased", "has", "(I)Z"⟩ yX2_has wsX2_has) := goodIn_app (goodIn_of _ (by decide +kernel)) ggX2_isOn_X2_has
theorem dX2_isOn_0 : decode cX2_isOn 0 = .ok (.aload_n 0, 1) := by decide +kernel
theorem dX2_isOn_1 : decode cX2_isOn 1 = .ok (.iload_n 1, 1) := by decide +kernel
theorem dX2_isOn_2 : decode cX2_isOn 2 = .ok (.invokevirtual 32, 3) := by decide +kernel
theorem dX2_isOn_5 : decode cX2_isOn 5 = .ok (.ifCond .eq 16, 3) := by decide +kernel
theorem dX2_isOn_8 : decode cX2_isOn 8 = .ok (.aload_n 0, 1) := by decide +kernel
theorem dX2_isOn_9 : decode cX2_isOn 9 = .ok (.getfield 21, 3) := by decide +kernel
theorem dX2_isOn_12 : decode cX2_isOn 12 = .ok (.iload_n 1, 1) := by decide +kernel
theorem dX2_isOn_13 : decode cX2_isOn 13 = .ok (.baload, 1) := by decide +kernel
theorem dX2_isOn_14 : decode cX2_isOn 14 = .ok (.ifCond .eq 7, 3) := by decide +kernel
theorem dX2_isOn_17 : decode cX2_isOn 17 = .ok (.iconst 1, 1) := by decide +kernel
theorem dX2_isOn_18 : decode cX2_isOn 18 = .ok (.goto 4, 3) := by decide +kernel
theorem dX2_isOn_21 : decode cX2_isOn 21 = .ok (.iconst 0, 1) := by decide +kernel
theorem dX2_isOn_22 : decode cX2_isOn 22 = .ok (.ireturn, 1) := by decide +kernel
set_option maxRecDepth 20000 in
theorem ggX2_endAt_X2_has : GoodIn wsX2_endAt wsX2_has := goodIn_r _ [7, 8, 10, 11, 12, 13, 14, 15, 16, 17, 18, 19, 20, 21, 22, 23, 24, 25, 26] (by decide +kernel) (by decide +kernel)
set_option maxRecDepth 20000 in
theorem gX2_endAt_X2_has_u32X1 : GoodIn wsX2_endAt (va_wsU RX2 32 RX1 "SecretBroker$Leased" ⟨"SecretBroker$Leased", "has", "(I)Z"⟩ yX2_has wsX2_has) := goodIn_app (goodIn_of _ (by decide +kernel)) ggX2_endAt_X2_has
set_option maxRecDepth 20000 in
theorem gX2_endAt_X2_has_u32X6 : GoodIn wsX2_endAt (va_wsU RX2 32 RX6 "SecretBroker$Leased" ⟨"SecretBroker$Leased", "has", "(I)Z"⟩ yX2_has wsX2_has) := goodIn_app (goodIn_of _ (by decide +kernel)) ggX2_endAt_X2_has
theorem dX2_endAt_0 : decode cX2_endAt 0 = .ok (.aload_n 0, 1) := by decide +kernel
theorem dX2_endAt_1 : decode cX2_endAt 1 = .ok (.iload_n 1, 1) := by decide +kernel
theorem dX2_endAt_2 : decode cX2_endAt 2 = .ok (.invokevirtual 32, 3) := by decide +kernel
theorem dX2_endAt_5 : decode cX2_endAt 5 = .ok (.ifCond .eq 12, 3) := by decide +kernel
theorem dX2_endAt_8 : decode cX2_endAt 8 = .ok (.aload_n 0, 1) := by decide +kernel
theorem dX2_endAt_9 : decode cX2_endAt 9 = .ok (.getfield 15, 3) := by decide +kernel
theorem dX2_endAt_12 : decode cX2_endAt 12 = .ok (.iload_n 1, 1) := by decide +kernel
theorem dX2_endAt_13 : decode cX2_endAt 13 = .ok (.iaload, 1) := by decide +kernel
theorem dX2_endAt_14 : decode cX2_endAt 14 = .ok (.goto 4, 3) := by decide +kernel
theorem dX2_endAt_17 : decode cX2_endAt 17 = .ok (.iconst (-1), 1) := by decide +kernel
theorem dX2_endAt_18 : decode cX2_endAt 18 = .ok (.ireturn, 1) := by decide +kernel
theorem dX2_add_0 : decode cX2_add 0 = .ok (.aload_n 0, 1) := by decide +kernel
theorem dX2_add_1 : decode cX2_add 1 = .ok (.getfield 25, 3) := by decide +kernel
theorem dX2_add_4 : decode cX2_add 4 = .ok (.sipush 513, 3) := by decide +kernel
theorem dX2_add_7 : decode cX2_add 7 = .ok (.if_icmp .lt 5, 3) := by decide +kernel
theorem dX2_add_10 : decode cX2_add 10 = .ok (.iconst (-1), 1) := by decide +kernel
theorem dX2_add_11 : decode cX2_add 11 = .ok (.ireturn, 1) := by decide +kernel
theorem dX2_add_12 : decode cX2_add 12 = .ok (.aload_n 0, 1) := by decide +kernel
theorem dX2_add_13 : decode cX2_add 13 = .ok (.getfield 9, 3) := by decide +kernel
theorem dX2_add_16 : decode cX2_add 16 = .ok (.aload_n 0, 1) := by decide +kernel
theorem dX2_add_17 : decode cX2_add 17 = .ok (.getfield 25, 3) := by decide +kernel
theorem dX2_add_20 : decode cX2_add 20 = .ok (.iload_n 1, 1) := by decide +kernel
theorem dX2_add_21 : decode cX2_add 21 = .ok (.iastore, 1) := by decide +kernel
theorem dX2_add_22 : decode cX2_add 22 = .ok (.aload_n 0, 1) := by decide +kernel
theorem dX2_add_23 : decode cX2_add 23 = .ok (.getfield 15, 3) := by decide +kernel
theorem dX2_add_26 : decode cX2_add 26 = .ok (.aload_n 0, 1) := by decide +kernel
theorem dX2_add_27 : decode cX2_add 27 = .ok (.getfield 25, 3) := by decide +kernel
theorem dX2_add_30 : decode cX2_add 30 = .ok (.iload_n 2, 1) := by decide +kernel
theorem dX2_add_31 : decode cX2_add 31 = .ok (.iastore, 1) := by decide +kernel
theorem dX2_add_32 : decode cX2_add 32 = .ok (.aload_n 0, 1) := by decide +kernel
theorem dX2_add_33 : decode cX2_add 33 = .ok (.getfield 18, 3) := by decide +kernel
theorem dX2_add_36 : decode cX2_add 36 = .ok (.aload_n 0, 1) := by decide +kernel
theorem dX2_add_37 : decode cX2_add 37 = .ok (.getfield 25, 3) := by decide +kernel
theorem dX2_add_40 : decode cX2_add 40 = .ok (.iload_n 3, 1) := by decide +kernel
theorem dX2_add_41 : decode cX2_add 41 = .ok (.iastore, 1) := by decide +kernel
theorem dX2_add_42 : decode cX2_add 42 = .ok (.aload_n 0, 1) := by decide +kernel
theorem dX2_add_43 : decode cX2_add 43 = .ok (.getfield 21, 3) := by decide +kernel
theorem dX2_add_46 : decode cX2_add 46 = .ok (.aload_n 0, 1) := by decide +kernel
theorem dX2_add_47 : decode cX2_add 47 = .ok (.getfield 25, 3) := by decide +kernel
theorem dX2_add_50 : decode cX2_add 50 = .ok (.iconst 1, 1) := by decide +kernel
theorem dX2_add_51 : decode cX2_add 51 = .ok (.bastore, 1) := by decide +kernel
theorem dX2_add_52 : decode cX2_add 52 = .ok (.aload_n 0, 1) := by decide +kernel
theorem dX2_add_53 : decode cX2_add 53 = .ok (.dup, 1) := by decide +kernel
theorem dX2_add_54 : decode cX2_add 54 = .ok (.getfield 29, 3) := by decide +kernel
theorem dX2_add_57 : decode cX2_add 57 = .ok (.iconst 1, 1) := by decide +kernel
theorem dX2_add_58 : decode cX2_add 58 = .ok (.iadd, 1) := by decide +kernel
theorem dX2_add_59 : decode cX2_add 59 = .ok (.putfield 29, 3) := by decide +kernel
theorem dX2_add_62 : decode cX2_add 62 = .ok (.aload_n 0, 1) := by decide +kernel
theorem dX2_add_63 : decode cX2_add 63 = .ok (.dup, 1) := by decide +kernel
theorem dX2_add_64 : decode cX2_add 64 = .ok (.getfield 25, 3) := by decide +kernel
theorem dX2_add_67 : decode cX2_add 67 = .ok (.iconst 1, 1) := by decide +kernel
theorem dX2_add_68 : decode cX2_add 68 = .ok (.iadd, 1) := by decide +kernel
theorem dX2_add_69 : decode cX2_add 69 = .ok (.putfield 25, 3) := by decide +kernel
theorem dX2_add_72 : decode cX2_add 72 = .ok (.aload_n 0, 1) := by decide +kernel
theorem dX2_add_73 : decode cX2_add 73 = .ok (.getfield 25, 3) := by decide +kernel
theorem dX2_add_76 : decode cX2_add 76 = .ok (.iconst 1, 1) := by decide +kernel
theorem dX2_add_77 : decode cX2_add 77 = .ok (.isub, 1) := by decide +kernel
theorem dX2_add_78 : decode cX2_add 78 = .ok (.ireturn, 1) := by decide +kernel
set_option maxRecDepth 20000 in
theorem ggX2_prolong_X2_has : GoodIn wsX2_prolong wsX2_has := goodIn_r _ [16, 17, 19, 20, 21, 22, 23, 24, 25, 26, 27, 28, 29, 30, 31, 32, 33, 34, 35] (by decide +kernel) (by decide +kernel)
set_option maxRecDepth 20000 in
theorem gX2_prolong_X2_has_u32X1 : GoodIn wsX2_prolong (va_wsU RX2 32 RX1 "SecretBroker$Leased" ⟨"SecretBroker$Leased", "has", "(I)Z"⟩ yX2_has wsX2_has) := goodIn_app (goodIn_of _ (by decide +kernel)) ggX2_prolong_X2_has
set_option maxRecDepth 20000 in
theorem gX2_prolong_X2_has_u32X6 : GoodIn wsX2_prolong (va_wsU RX2 32 RX6 "SecretBroker$Leased" ⟨"SecretBroker$Leased", "has", "(I)Z"⟩ yX2_has wsX2_has) := goodIn_app (goodIn_of _ (by decide +kernel)) ggX2_prolong_X2_has
theorem dX2_prolong_0 : decode cX2_prolong 0 = .ok (.aload_n 0, 1) := by decide +kernel
theorem dX2_prolong_1 : decode cX2_prolong 1 = .ok (.iload_n 1, 1) := by decide +kernel
theorem dX2_prolong_2 : decode cX2_prolong 2 = .ok (.invokevirtual 32, 3) := by decide +kernel
theorem dX2_prolong_5 : decode cX2_prolong 5 = .ok (.ifCond .eq 41, 3) := by decide +kernel
theorem dX2_prolong_8 : decode cX2_prolong 8 = .ok (.aload_n 0, 1) := by decide +kernel
theorem dX2_prolong_9 : decode cX2_prolong 9 = .ok (.getfield 9, 3) := by decide +kernel
theorem dX2_prolong_12 : decode cX2_prolong 12 = .ok (.iload_n 1, 1) := by decide +kernel
theorem dX2_prolong_13 : decode cX2_prolong 13 = .ok (.iaload, 1) := by decide +kernel
theorem dX2_prolong_14 : decode cX2_prolong 14 = .ok (.aload_n 0, 1) := by decide +kernel
theorem dX2_prolong_15 : decode cX2_prolong 15 = .ok (.getfield 18, 3) := by decide +kernel
theorem dX2_prolong_18 : decode cX2_prolong 18 = .ok (.iload_n 1, 1) := by decide +kernel
theorem dX2_prolong_19 : decode cX2_prolong 19 = .ok (.iaload, 1) := by decide +kernel
theorem dX2_prolong_20 : decode cX2_prolong 20 = .ok (.iadd, 1) := by decide +kernel
theorem dX2_prolong_21 : decode cX2_prolong 21 = .ok (.istore 4, 2) := by decide +kernel
theorem dX2_prolong_23 : decode cX2_prolong 23 = .ok (.aload_n 0, 1) := by decide +kernel
theorem dX2_prolong_24 : decode cX2_prolong 24 = .ok (.getfield 15, 3) := by decide +kernel
theorem dX2_prolong_27 : decode cX2_prolong 27 = .ok (.iload_n 1, 1) := by decide +kernel
theorem dX2_prolong_28 : decode cX2_prolong 28 = .ok (.aload_n 0, 1) := by decide +kernel
theorem dX2_prolong_29 : decode cX2_prolong 29 = .ok (.getfield 15, 3) := by decide +kernel
theorem dX2_prolong_32 : decode cX2_prolong 32 = .ok (.iload_n 1, 1) := by decide +kernel
theorem dX2_prolong_33 : decode cX2_prolong 33 = .ok (.iaload, 1) := by decide +kernel
theorem dX2_prolong_34 : decode cX2_prolong 34 = .ok (.iload_n 2, 1) := by decide +kernel
theorem dX2_prolong_35 : decode cX2_prolong 35 = .ok (.iload_n 3, 1) := by decide +kernel
theorem dX2_prolong_36 : decode cX2_prolong 36 = .ok (.iadd, 1) := by decide +kernel
theorem dX2_prolong_37 : decode cX2_prolong 37 = .ok (.iload 4, 2) := by decide +kernel
theorem dX2_prolong_39 : decode cX2_prolong 39 = .ok (.invokestatic 36, 3) := by decide +kernel
theorem dX2_prolong_42 : decode cX2_prolong 42 = .ok (.invokestatic 42, 3) := by decide +kernel
theorem dX2_prolong_45 : decode cX2_prolong 45 = .ok (.iastore, 1) := by decide +kernel
theorem dX2_prolong_46 : decode cX2_prolong 46 = .ok (.return_, 1) := by decide +kernel
set_option maxRecDepth 20000 in
theorem ggX2_end_X2_isOn : GoodIn wsX2_end wsX2_isOn := goodIn_r _ [8, 1, 9, 10, 11, 12, 7, 13, 14, 15, 17, 18, 19, 20, 21, 22, 23, 24, 25, 26, 27, 28, 29, 30, 31, 32, 33] (by decide +kernel) (by decide +kernel)
set_option maxRecDepth 20000 in
theorem gX2_end_X2_isOn_u45X1 : GoodIn wsX2_end (va_wsU RX2 45 RX1 "SecretBroker$Leased" ⟨"SecretBroker$Leased", "isOn", "(I)Z"⟩ yX2_isOn wsX2_isOn) := goodIn_app (goodIn_of _ (by decide +kernel)) ggX2_end_X2_isOn
set_option maxRecDepth 20000 in
theorem gX2_end_X2_isOn_u45X6 : GoodIn wsX2_end (va_wsU RX2 45 RX6 "SecretBroker$Leased" ⟨"SecretBroker$Leased", "isOn", "(I)Z"⟩ yX2_isOn wsX2_isOn) := goodIn_app (goodIn_of _ (by decide +kernel)) ggX2_end_X2_isOn
theorem dX2_end_0 : decode cX2_end 0 = .ok (.aload_n 0, 1) := by decide +kernel
theorem dX2_end_1 : decode cX2_end 1 = .ok (.iload_n 1, 1) := by decide +kernel
theorem dX2_end_2 : decode cX2_end 2 = .ok (.invokevirtual 45, 3) := by decide +kernel
theorem dX2_end_5 : decode cX2_end 5 = .ok (.ifCond .ne 5, 3) := by decide +kernel
theorem dX2_end_8 : decode cX2_end 8 = .ok (.iconst 0, 1) := by decide +kernel
theorem dX2_end_9 : decode cX2_end 9 = .ok (.ireturn, 1) := by decide +kernel
theorem dX2_end_10 : decode cX2_end 10 = .ok (.aload_n 0, 1) := by decide +kernel
theorem dX2_end_11 : decode cX2_end 11 = .ok (.getfield 21, 3) := by decide +kernel
theorem dX2_end_14 : decode cX2_end 14 = .ok (.iload_n 1, 1) := by decide +kernel
theorem dX2_end_15 : decode cX2_end 15 = .ok (.iconst 0, 1) := by decide +kernel
theorem dX2_end_16 : decode cX2_end 16 = .ok (.bastore, 1) := by decide +kernel
theorem dX2_end_17 : decode cX2_end 17 = .ok (.aload_n 0, 1) := by decide +kernel
theorem dX2_end_18 : decode cX2_end 18 = .ok (.dup, 1) := by decide +kernel
theorem dX2_end_19 : decode cX2_end 19 = .ok (.getfield 29, 3) := by decide +kernel
theorem dX2_end_22 : decode cX2_end 22 = .ok (.iconst 1, 1) := by decide +kernel
theorem dX2_end_23 : decode cX2_end 23 = .ok (.isub, 1) := by decide +kernel
theorem dX2_end_24 : decode cX2_end 24 = .ok (.putfield 29, 3) := by decide +kernel
theorem dX2_end_27 : decode cX2_end 27 = .ok (.iconst 1, 1) := by decide +kernel
theorem dX2_end_28 : decode cX2_end 28 = .ok (.ireturn, 1) := by decide +kernel
set_option maxRecDepth 20000 in
theorem ggX2_endByTime_X2_end : GoodIn wsX2_endByTime wsX2_end := goodIn_r _ [8, 9, 10, 11, 12, 13, 14, 7, 15, 16, 17, 18, 19, 20, 1, 21, 22, 24, 25, 26, 27, 28, 29, 30, 31, 32, 33, 34, 35, 36, 37, 38, 39, 40] (by decide +kernel) (by decide +kernel)
set_option maxRecDepth 20000 in
theorem gX2_endByTime_X2_end_u48X1 : GoodIn wsX2_endByTime (va_wsU RX2 48 RX1 "SecretBroker$Leased" ⟨"SecretBroker$Leased", "end", "(I)I"⟩ yX2_end wsX2_end) := goodIn_app (goodIn_of _ (by decide +kernel)) ggX2_endByTime_X2_end
set_option maxRecDepth 20000 in
theorem gX2_endByTime_X2_end_u48X6 : GoodIn wsX2_endByTime (va_wsU RX2 48 RX6 "SecretBroker$Leased" ⟨"SecretBroker$Leased", "end", "(I)I"⟩ yX2_end wsX2_end) := goodIn_app (goodIn_of _ (by decide +kernel)) ggX2_endByTime_X2_end
theorem dX2_endByTime_0 : decode cX2_endByTime 0 = .ok (.iconst 0, 1) := by decide +kernel
theorem dX2_endByTime_1 : decode cX2_endByTime 1 = .ok (.istore_n 2, 1) := by decide +kernel
theorem dX2_endByTime_2 : decode cX2_endByTime 2 = .ok (.iconst 0, 1) := by decide +kernel
theorem dX2_endByTime_3 : decode cX2_endByTime 3 = .ok (.istore_n 3, 1) := by decide +kernel
theorem dX2_endByTime_4 : decode cX2_endByTime 4 = .ok (.iload_n 3, 1) := by decide +kernel
theorem dX2_endByTime_5 : decode cX2_endByTime 5 = .ok (.aload_n 0, 1) := by decide +kernel
theorem dX2_endByTime_6 : decode cX2_endByTime 6 = .ok (.getfield 25, 3) := by decide +kernel
theorem dX2_endByTime_9 : decode cX2_endByTime 9 = .ok (.if_icmp .ge 37, 3) := by decide +kernel
theorem dX2_endByTime_12 : decode cX2_endByTime 12 = .ok (.aload_n 0, 1) := by decide +kernel
theorem dX2_endByTime_13 : decode cX2_endByTime 13 = .ok (.getfield 15, 3) := by decide +kernel
theorem dX2_endByTime_16 : decode cX2_endByTime 16 = .ok (.iload_n 3, 1) := by decide +kernel
theorem dX2_endByTime_17 : decode cX2_endByTime 17 = .ok (.iaload, 1) := by decide +kernel
theorem dX2_endByTime_18 : decode cX2_endByTime 18 = .ok (.iconst (-1), 1) := by decide +kernel
theorem dX2_endByTime_19 : decode cX2_endByTime 19 = .ok (.if_icmp .eq 21, 3) := by decide +kernel
theorem dX2_endByTime_22 : decode cX2_endByTime 22 = .ok (.aload_n 0, 1) := by decide +kernel
theorem dX2_endByTime_23 : decode cX2_endByTime 23 = .ok (.getfield 15, 3) := by decide +kernel
theorem dX2_endByTime_26 : decode cX2_endByTime 26 = .ok (.iload_n 3, 1) := by decide +kernel
theorem dX2_endByTime_27 : decode cX2_endByTime 27 = .ok (.iaload, 1) := by decide +kernel
theorem dX2_endByTime_28 : decode cX2_endByTime 28 = .ok (.iload_n 1, 1) := by decide +kernel
theorem dX2_endByTime_29 : decode cX2_endByTime 29 = .ok (.if_icmp .gt 11, 3) := by decide +kernel
theorem dX2_endByTime_32 : decode cX2_endByTime 32 = .ok (.iload_n 2, 1) := by decide +kernel
theorem dX2_endByTime_33 : decode cX2_endByTime 33 = .ok (.aload_n 0, 1) := by decide +kernel
theorem dX2_endByTime_34 : decode cX2_endByTime 34 = .ok (.iload_n 3, 1) := by decide +kernel
theorem dX2_endByTime_35 : decode cX2_endByTime 35 = .ok (.invokevirtual 48, 3) := by decide +kernel
theorem dX2_endByTime_38 : decode cX2_endByTime 38 = .ok (.iadd, 1) := by decide +kernel
theorem dX2_endByTime_39 : decode cX2_endByTime 39 = .ok (.istore_n 2, 1) := by decide +kernel
theorem dX2_endByTime_40 : decode cX2_endByTime 40 = .ok (.iinc 3 1, 3) := by decide +kernel
theorem dX2_endByTime_43 : decode cX2_endByTime 43 = .ok (.goto (-39), 3) := by decide +kernel
theorem dX2_endByTime_46 : decode cX2_endByTime 46 = .ok (.iload_n 2, 1) := by decide +kernel
theorem dX2_endByTime_47 : decode cX2_endByTime 47 = .ok (.ireturn, 1) := by decide +kernel
theorem dX2_firstEnd_0 : decode cX2_firstEnd 0 = .ok (.iconst (-1), 1) := by decide +kernel
theorem dX2_firstEnd_1 : decode cX2_firstEnd 1 = .ok (.istore_n 1, 1) := by decide +kernel
theorem dX2_firstEnd_2 : decode cX2_firstEnd 2 = .ok (.iconst 0, 1) := by decide +kernel
theorem dX2_firstEnd_3 : decode cX2_firstEnd 3 = .ok (.istore_n 2, 1) := by decide +kernel
theorem dX2_firstEnd_4 : decode cX2_firstEnd 4 = .ok (.iload_n 2, 1) := by decide +kernel
theorem dX2_firstEnd_5 : decode cX2_firstEnd 5 = .ok (.aload_n 0, 1) := by decide +kernel
theorem dX2_firstEnd_6 : decode cX2_firstEnd 6 = .ok (.getfield 25, 3) := by decide +kernel
theorem dX2_firstEnd_9 : decode cX2_firstEnd 9 = .ok (.if_icmp .ge 50, 3) := by decide +kernel
theorem dX2_firstEnd_12 : decode cX2_firstEnd 12 = .ok (.aload_n 0, 1) := by decide +kernel
theorem dX2_firstEnd_13 : decode cX2_firstEnd 13 = .ok (.getfield 21, 3) := by decide +kernel
theorem dX2_firstEnd_16 : decode cX2_firstEnd 16 = .ok (.iload_n 2, 1) := by decide +kernel
theorem dX2_firstEnd_17 : decode cX2_firstEnd 17 = .ok (.baload, 1) := by decide +kernel
theorem dX2_firstEnd_18 : decode cX2_firstEnd 18 = .ok (.ifCond .eq 35, 3) := by decide +kernel
theorem dX2_firstEnd_21 : decode cX2_firstEnd 21 = .ok (.aload_n 0, 1) := by decide +kernel
theorem dX2_firstEnd_22 : decode cX2_firstEnd 22 = .ok (.getfield 15, 3) := by decide +kernel
theorem dX2_firstEnd_25 : decode cX2_firstEnd 25 = .ok (.iload_n 2, 1) := by decide +kernel
theorem dX2_firstEnd_26 : decode cX2_firstEnd 26 = .ok (.iaload, 1) := by decide +kernel
theorem dX2_firstEnd_27 : decode cX2_firstEnd 27 = .ok (.iconst (-1), 1) := by decide +kernel
theorem dX2_firstEnd_28 : decode cX2_firstEnd 28 = .ok (.if_icmp .eq 25, 3) := by decide +kernel
theorem dX2_firstEnd_31 : decode cX2_firstEnd 31 = .ok (.iload_n 1, 1) := by decide +kernel
theorem dX2_firstEnd_32 : decode cX2_firstEnd 32 = .ok (.iconst (-1), 1) := by decide +kernel
theorem dX2_firstEnd_33 : decode cX2_firstEnd 33 = .ok (.if_icmp .eq 13, 3) := by decide +kernel
theorem dX2_firstEnd_36 : decode cX2_firstEnd 36 = .ok (.aload_n 0, 1) := by decide +kernel
theorem dX2_firstEnd_37 : decode cX2_firstEnd 37 = .ok (.getfield 15, 3) := by decide +kernel
theorem dX2_firstEnd_40 : decode cX2_firstEnd 40 = .ok (.iload_n 2, 1) := by decide +kernel
theorem dX2_firstEnd_41 : decode cX2_firstEnd 41 = .ok (.iaload, 1) := by decide +kernel
theorem dX2_firstEnd_42 : decode cX2_firstEnd 42 = .ok (.iload_n 1, 1) := by decide +kernel
theorem dX2_firstEnd_43 : decode cX2_firstEnd 43 = .ok (.if_icmp .ge 10, 3) := by decide +kernel
theorem dX2_firstEnd_46 : decode cX2_firstEnd 46 = .ok (.aload_n 0, 1) := by decide +kernel
theorem dX2_firstEnd_47 : decode cX2_firstEnd 47 = .ok (.getfield 15, 3) := by decide +kernel
theorem dX2_firstEnd_50 : decode cX2_firstEnd 50 = .ok (.iload_n 2, 1) := by decide +kernel
theorem dX2_firstEnd_51 : decode cX2_firstEnd 51 = .ok (.iaload, 1) := by decide +kernel
theorem dX2_firstEnd_52 : decode cX2_firstEnd 52 = .ok (.istore_n 1, 1) := by decide +kernel
theorem dX2_firstEnd_53 : decode cX2_firstEnd 53 = .ok (.iinc 2 1, 3) := by decide +kernel
theorem dX2_firstEnd_56 : decode cX2_firstEnd 56 = .ok (.goto (-52), 3) := by decide +kernel
theorem dX2_firstEnd_59 : decode cX2_firstEnd 59 = .ok (.iload_n 1, 1) := by decide +kernel
theorem dX2_firstEnd_60 : decode cX2_firstEnd 60 = .ok (.ireturn, 1) := by decide +kernel
theorem dX3_init_0 : decode cX3_init 0 = .ok (.aload_n 0, 1) := by decide +kernel
theorem dX3_init_1 : decode cX3_init 1 = .ok (.invokespecial 3, 3) := by decide +kernel
theorem dX3_init_4 : decode cX3_init 4 = .ok (.aload_n 0, 1) := by decide +kernel
theorem dX3_init_5 : decode cX3_init 5 = .ok (.bipush 6, 2) := by decide +kernel
theorem dX3_init_7 : decode cX3_init 7 = .ok (.newarray .int, 2) := by decide +kernel
theorem dX3_init_9 : decode cX3_init 9 = .ok (.putfield 9, 3) := by decide +kernel
theorem dX3_init_12 : decode cX3_init 12 = .ok (.aload_n 0, 1) := by decide +kernel
theorem dX3_init_13 : decode cX3_init 13 = .ok (.bipush 6, 2) := by decide +kernel
theorem dX3_init_15 : decode cX3_init 15 = .ok (.newarray .int, 2) := by decide +kernel
theorem dX3_init_17 : decode cX3_init 17 = .ok (.putfield 15, 3) := by decide +kernel
theorem dX3_init_20 : decode cX3_init 20 = .ok (.aload_n 0, 1) := by decide +kernel
theorem dX3_init_21 : decode cX3_init 21 = .ok (.bipush 6, 2) := by decide +kernel
theorem dX3_init_23 : decode cX3_init 23 = .ok (.newarray .int, 2) := by decide +kernel
theorem dX3_init_25 : decode cX3_init 25 = .ok (.putfield 18, 3) := by decide +kernel
theorem dX3_init_28 : decode cX3_init 28 = .ok (.aload_n 0, 1) := by decide +kernel
theorem dX3_init_29 : decode cX3_init 29 = .ok (.iconst 0, 1) := by decide +kernel
theorem dX3_init_30 : decode cX3_init 30 = .ok (.putfield 21, 3) := by decide +kernel
theorem dX3_init_33 : decode cX3_init 33 = .ok (.return_, 1) := by decide +kernel
theorem dX3_count_0 : decode cX3_count 0 = .ok (.aload_n 0, 1) := by decide +kernel
theorem dX3_count_1 : decode cX3_count 1 = .ok (.getfield 21, 3) := by decide +kernel
theorem dX3_count_4 : decode cX3_count 4 = .ok (.ireturn, 1) := by decide +kernel
theorem dX3_has_0 : decode cX3_has 0 = .ok (.iload_n 1, 1) := by decide +kernel
theorem dX3_has_1 : decode cX3_has 1 = .ok (.ifCond .lt 15, 3) := by decide +kernel
theorem dX3_has_4 : decode cX3_has 4 = .ok (.iload_n 1, 1) := by decide +kernel
theorem dX3_has_5 : decode cX3_has 5 = .ok (.aload_n 0, 1) := by decide +kernel
theorem dX3_has_6 : decode cX3_has 6 = .ok (.getfield 21, 3) := by decide +kernel
theorem dX3_has_9 : decode cX3_has 9 = .ok (.if_icmp .ge 7, 3) := by decide +kernel
theorem dX3_has_12 : decode cX3_has 12 = .ok (.iconst 1, 1) := by decide +kernel
theorem dX3_has_13 : decode cX3_has 13 = .ok (.goto 4, 3) := by decide +kernel
theorem dX3_has_16 : decode cX3_has 16 = .ok (.iconst 0, 1) := by decide +kernel
theorem dX3_has_17 : decode cX3_has 17 = .ok (.ireturn, 1) := by decide +kernel
theorem dX3_find_0 : decode cX3_find 0 = .ok (.iconst 0, 1) := by decide +kernel
theorem dX3_find_1 : decode cX3_find 1 = .ok (.istore_n 2, 1) := by decide +kernel
theorem dX3_find_2 : decode cX3_find 2 = .ok (.iload_n 2, 1) := by decide +kernel
theorem dX3_find_3 : decode cX3_find 3 = .ok (.aload_n 0, 1) := by decide +kernel
theorem dX3_find_4 : decode cX3_find 4 = .ok (.getfield 21, 3) := by decide +kernel
theorem dX3_find_7 : decode cX3_find 7 = .ok (.if_icmp .ge 21, 3) := by decide +kernel
theorem dX3_find_10 : decode cX3_find 10 = .ok (.aload_n 0, 1) := by decide +kernel
theorem dX3_find_11 : decode cX3_find 11 = .ok (.getfield 9, 3) := by decide +kernel
theorem dX3_find_14 : decode cX3_find 14 = .ok (.iload_n 2, 1) := by decide +kernel
theorem dX3_find_15 : decode cX3_find 15 = .ok (.iaload, 1) := by decide +kernel
theorem dX3_find_16 : decode cX3_find 16 = .ok (.iload_n 1, 1) := by decide +kernel
theorem dX3_find_17 : decode cX3_find 17 = .ok (.if_icmp .ne 5, 3) := by decide +kernel
theorem dX3_find_20 : decode cX3_find 20 = .ok (.iload_n 2, 1) := by decide +kernel
theorem dX3_find_21 : decode cX3_find 21 = .ok (.ireturn, 1) := by decide +kernel
theorem dX3_find_22 : decode cX3_find 22 = .ok (.iinc 2 1, 3) := by decide +kernel
theorem dX3_find_25 : decode cX3_find 25 = .ok (.goto (-23), 3) := by decide +kernel
theorem dX3_find_28 : decode cX3_find 28 = .ok (.iconst (-1), 1) := by decide +kernel
theorem dX3_find_29 : decode cX3_find 29 = .ok (.ireturn, 1) := by decide +kernel
set_option maxRecDepth 20000 in
theorem ggX3_put_X3_find : GoodIn wsX3_put wsX3_find := goodIn_r _ [9, 1, 2, 10, 11, 12, 13] (by decide +kernel) (by decide +kernel)
set_option maxRecDepth 20000 in
theorem gX3_put_X3_find : GoodIn wsX3_put (wsV RX3 25 RX3 yX3_find wsX3_find) := goodIn_app (goodIn_of _ (by decide +kernel)) ggX3_put_X3_find
theorem dX3_put_0 : decode cX3_put 0 = .ok (.aload_n 0, 1) := by decide +kernel
theorem dX3_put_1 : decode cX3_put 1 = .ok (.iload_n 1, 1) := by decide +kernel
theorem dX3_put_2 : decode cX3_put 2 = .ok (.invokevirtual 25, 3) := by decide +kernel
theorem dX3_put_5 : decode cX3_put 5 = .ok (.istore 4, 2) := by decide +kernel
theorem dX3_put_7 : decode cX3_put 7 = .ok (.iload 4, 2) := by decide +kernel
theorem dX3_put_9 : decode cX3_put 9 = .ok (.iconst (-1), 1) := by decide +kernel
theorem dX3_put_10 : decode cX3_put 10 = .ok (.if_icmp .ne 28, 3) := by decide +kernel
theorem dX3_put_13 : decode cX3_put 13 = .ok (.aload_n 0, 1) := by decide +kernel
theorem dX3_put_14 : decode cX3_put 14 = .ok (.getfield 21, 3) := by decide +kernel
theorem dX3_put_17 : decode cX3_put 17 = .ok (.bipush 6, 2) := by decide +kernel
theorem dX3_put_19 : decode cX3_put 19 = .ok (.if_icmp .ge 19, 3) := by decide +kernel
theorem dX3_put_22 : decode cX3_put 22 = .ok (.aload_n 0, 1) := by decide +kernel
theorem dX3_put_23 : decode cX3_put 23 = .ok (.getfield 21, 3) := by decide +kernel
theorem dX3_put_26 : decode cX3_put 26 = .ok (.istore 4, 2) := by decide +kernel
theorem dX3_put_28 : decode cX3_put 28 = .ok (.aload_n 0, 1) := by decide +kernel
theorem dX3_put_29 : decode cX3_put 29 = .ok (.dup, 1) := by decide +kernel
theorem dX3_put_30 : decode cX3_put 30 = .ok (.getfield 21, 3) := by decide +kernel
theorem dX3_put_33 : decode cX3_put 33 = .ok (.iconst 1, 1) := by decide +kernel
theorem dX3_put_34 : decode cX3_put 34 = .ok (.iadd, 1) := by decide +kernel
theorem dX3_put_35 : decode cX3_put 35 = .ok (.putfield 21, 3) := by decide +kernel
theorem dX3_put_38 : decode cX3_put 38 = .ok (.iload 4, 2) := by decide +kernel
theorem dX3_put_40 : decode cX3_put 40 = .ok (.iconst (-1), 1) := by decide +kernel
theorem dX3_put_41 : decode cX3_put 41 = .ok (.if_icmp .eq 27, 3) := by decide +kernel
theorem dX3_put_44 : decode cX3_put 44 = .ok (.aload_n 0, 1) := by decide +kernel
theorem dX3_put_45 : decode cX3_put 45 = .ok (.getfield 9, 3) := by decide +kernel
theorem dX3_put_48 : decode cX3_put 48 = .ok (.iload 4, 2) := by decide +kernel
theorem dX3_put_50 : decode cX3_put 50 = .ok (.iload_n 1, 1) := by decide +kernel
theorem dX3_put_51 : decode cX3_put 51 = .ok (.iastore, 1) := by decide +kernel
theorem dX3_put_52 : decode cX3_put 52 = .ok (.aload_n 0, 1) := by decide +kernel
theorem dX3_put_53 : decode cX3_put 53 = .ok (.getfield 15, 3) := by decide +kernel
theorem dX3_put_56 : decode cX3_put 56 = .ok (.iload 4, 2) := by decide +kernel
theorem dX3_put_58 : decode cX3_put 58 = .ok (.iload_n 2, 1) := by decide +kernel
theorem dX3_put_59 : decode cX3_put 59 = .ok (.iastore, 1) := by decide +kernel
theorem dX3_put_60 : decode cX3_put 60 = .ok (.aload_n 0, 1) := by decide +kernel
theorem dX3_put_61 : decode cX3_put 61 = .ok (.getfield 18, 3) := by decide +kernel
theorem dX3_put_64 : decode cX3_put 64 = .ok (.iload 4, 2) := by decide +kernel
theorem dX3_put_66 : decode cX3_put 66 = .ok (.iload_n 3, 1) := by decide +kernel
theorem dX3_put_67 : decode cX3_put 67 = .ok (.iastore, 1) := by decide +kernel
theorem dX3_put_68 : decode cX3_put 68 = .ok (.return_, 1) := by decide +kernel
set_option maxRecDepth 20000 in
theorem ggX3_nearest_X4_isBelow : GoodIn wsX3_nearest wsX4_isBelow := goodIn_r _ [6, 7, 8, 5, 9, 10, 11, 12] (by decide +kernel) (by decide +kernel)
set_option maxRecDepth 20000 in
theorem gX3_nearest_X4_isBelow : GoodIn wsX3_nearest (va_wsS RX3 29 yX4_isBelow wsX4_isBelow) := goodIn_app (goodIn_of _ (by decide +kernel)) ggX3_nearest_X4_isBelow
theorem dX3_nearest_0 : decode cX3_nearest 0 = .ok (.iconst (-1), 1) := by decide +kernel
theorem dX3_nearest_1 : decode cX3_nearest 1 = .ok (.istore_n 2, 1) := by decide +kernel
theorem dX3_nearest_2 : decode cX3_nearest 2 = .ok (.iconst 0, 1) := by decide +kernel
theorem dX3_nearest_3 : decode cX3_nearest 3 = .ok (.istore_n 3, 1) := by decide +kernel
theorem dX3_nearest_4 : decode cX3_nearest 4 = .ok (.iload_n 3, 1) := by decide +kernel
theorem dX3_nearest_5 : decode cX3_nearest 5 = .ok (.aload_n 0, 1) := by decide +kernel
theorem dX3_nearest_6 : decode cX3_nearest 6 = .ok (.getfield 21, 3) := by decide +kernel
theorem dX3_nearest_9 : decode cX3_nearest 9 = .ok (.if_icmp .ge 44, 3) := by decide +kernel
theorem dX3_nearest_12 : decode cX3_nearest 12 = .ok (.iload_n 1, 1) := by decide +kernel
theorem dX3_nearest_13 : decode cX3_nearest 13 = .ok (.aload_n 0, 1) := by decide +kernel
theorem dX3_nearest_14 : decode cX3_nearest 14 = .ok (.getfield 9, 3) := by decide +kernel
theorem dX3_nearest_17 : decode cX3_nearest 17 = .ok (.iload_n 3, 1) := by decide +kernel
theorem dX3_nearest_18 : decode cX3_nearest 18 = .ok (.iaload, 1) := by decide +kernel
theorem dX3_nearest_19 : decode cX3_nearest 19 = .ok (.invokestatic 29, 3) := by decide +kernel
theorem dX3_nearest_22 : decode cX3_nearest 22 = .ok (.ifCond .eq 25, 3) := by decide +kernel
theorem dX3_nearest_25 : decode cX3_nearest 25 = .ok (.iload_n 2, 1) := by decide +kernel
theorem dX3_nearest_26 : decode cX3_nearest 26 = .ok (.iconst (-1), 1) := by decide +kernel
theorem dX3_nearest_27 : decode cX3_nearest 27 = .ok (.if_icmp .eq 18, 3) := by decide +kernel
theorem dX3_nearest_30 : decode cX3_nearest 30 = .ok (.aload_n 0, 1) := by decide +kernel
theorem dX3_nearest_31 : decode cX3_nearest 31 = .ok (.getfield 9, 3) := by decide +kernel
theorem dX3_nearest_34 : decode cX3_nearest 34 = .ok (.iload_n 3, 1) := by decide +kernel
theorem dX3_nearest_35 : decode cX3_nearest 35 = .ok (.iaload, 1) := by decide +kernel
theorem dX3_nearest_36 : decode cX3_nearest 36 = .ok (.aload_n 0, 1) := by decide +kernel
theorem dX3_nearest_37 : decode cX3_nearest 37 = .ok (.getfield 9, 3) := by decide +kernel
theorem dX3_nearest_40 : decode cX3_nearest 40 = .ok (.iload_n 2, 1) := by decide +kernel
theorem dX3_nearest_41 : decode cX3_nearest 41 = .ok (.iaload, 1) := by decide +kernel
theorem dX3_nearest_42 : decode cX3_nearest 42 = .ok (.if_icmp .le 5, 3) := by decide +kernel
theorem dX3_nearest_45 : decode cX3_nearest 45 = .ok (.iload_n 3, 1) := by decide +kernel
theorem dX3_nearest_46 : decode cX3_nearest 46 = .ok (.istore_n 2, 1) := by decide +kernel
theorem dX3_nearest_47 : decode cX3_nearest 47 = .ok (.iinc 3 1, 3) := by decide +kernel
theorem dX3_nearest_50 : decode cX3_nearest 50 = .ok (.goto (-46), 3) := by decide +kernel
theorem dX3_nearest_53 : decode cX3_nearest 53 = .ok (.iload_n 2, 1) := by decide +kernel
theorem dX3_nearest_54 : decode cX3_nearest 54 = .ok (.ireturn, 1) := by decide +kernel
set_option maxRecDepth 20000 in
theorem ggX3_minutesAt_X3_has : GoodIn wsX3_minutesAt wsX3_has := goodIn_r _ [6, 7, 8, 9, 10, 11] (by decide +kernel) (by decide +kernel)
set_option maxRecDepth 20000 in
theorem gX3_minutesAt_X3_has : GoodIn wsX3_minutesAt (wsV RX3 35 RX3 yX3_has wsX3_has) := goodIn_app (goodIn_of _ (by decide +kernel)) ggX3_minutesAt_X3_has
theorem dX3_minutesAt_0 : decode cX3_minutesAt 0 = .ok (.aload_n 0, 1) := by decide +kernel
theorem dX3_minutesAt_1 : decode cX3_minutesAt 1 = .ok (.iload_n 1, 1) := by decide +kernel
theorem dX3_minutesAt_2 : decode cX3_minutesAt 2 = .ok (.invokevirtual 35, 3) := by decide +kernel
theorem dX3_minutesAt_5 : decode cX3_minutesAt 5 = .ok (.ifCond .eq 12, 3) := by decide +kernel
theorem dX3_minutesAt_8 : decode cX3_minutesAt 8 = .ok (.aload_n 0, 1) := by decide +kernel
theorem dX3_minutesAt_9 : decode cX3_minutesAt 9 = .ok (.getfield 15, 3) := by decide +kernel
theorem dX3_minutesAt_12 : decode cX3_minutesAt 12 = .ok (.iload_n 1, 1) := by decide +kernel
theorem dX3_minutesAt_13 : decode cX3_minutesAt 13 = .ok (.iaload, 1) := by decide +kernel
theorem dX3_minutesAt_14 : decode cX3_minutesAt 14 = .ok (.goto 4, 3) := by decide +kernel
theorem dX3_minutesAt_17 : decode cX3_minutesAt 17 = .ok (.iconst 0, 1) := by decide +kernel
theorem dX3_minutesAt_18 : decode cX3_minutesAt 18 = .ok (.ireturn, 1) := by decide +kernel
set_option maxRecDepth 20000 in
theorem ggX3_boundAt_X3_has : GoodIn wsX3_boundAt wsX3_has := goodIn_r _ [6, 7, 8, 9, 10, 11] (by decide +kernel) (by decide +kernel)
set_option maxRecDepth 20000 in
theorem gX3_boundAt_X3_has : GoodIn wsX3_boundAt (wsV RX3 35 RX3 yX3_has wsX3_has) := goodIn_app (goodIn_of _ (by decide +kernel)) ggX3_boundAt_X3_has
theorem dX3_boundAt_0 : decode cX3_boundAt 0 = .ok (.aload_n 0, 1) := by decide +kernel
theorem dX3_boundAt_1 : decode cX3_boundAt 1 = .ok (.iload_n 1, 1) := by decide +kernel
theorem dX3_boundAt_2 : decode cX3_boundAt 2 = .ok (.invokevirtual 35, 3) := by decide +kernel
theorem dX3_boundAt_5 : decode cX3_boundAt 5 = .ok (.ifCond .eq 12, 3) := by decide +kernel
theorem dX3_boundAt_8 : decode cX3_boundAt 8 = .ok (.aload_n 0, 1) := by decide +kernel
theorem dX3_boundAt_9 : decode cX3_boundAt 9 = .ok (.getfield 18, 3) := by decide +kernel
theorem dX3_boundAt_12 : decode cX3_boundAt 12 = .ok (.iload_n 1, 1) := by decide +kernel
theorem dX3_boundAt_13 : decode cX3_boundAt 13 = .ok (.iaload, 1) := by decide +kernel
theorem dX3_boundAt_14 : decode cX3_boundAt 14 = .ok (.goto 4, 3) := by decide +kernel
theorem dX3_boundAt_17 : decode cX3_boundAt 17 = .ok (.iconst 0, 1) := by decide +kernel
theorem dX3_boundAt_18 : decode cX3_boundAt 18 = .ok (.ireturn, 1) := by decide +kernel
set_option maxRecDepth 20000 in
theorem ggX4_isPath_X4_hasDigits : GoodIn wsX4_isPath wsX4_hasDigits := goodIn_r _ [4, 5] (by decide +kernel) (by decide +kernel)
set_option maxRecDepth 20000 in
theorem gX4_isPath_X4_hasDigits : GoodIn wsX4_isPath (va_wsS RX4 9 yX4_hasDigits wsX4_hasDigits) := goodIn_app (goodIn_of _ (by decide +kernel)) ggX4_isPath_X4_hasDigits
theorem dX4_isPath_0 : decode cX4_isPath 0 = .ok (.iload_n 0, 1) := by decide +kernel
theorem dX4_isPath_1 : decode cX4_isPath 1 = .ok (.bipush 8, 2) := by decide +kernel
theorem dX4_isPath_3 : decode cX4_isPath 3 = .ok (.invokestatic 9, 3) := by decide +kernel
theorem dX4_isPath_6 : decode cX4_isPath 6 = .ok (.ireturn, 1) := by decide +kernel
set_option maxRecDepth 20000 in
theorem ggX4_isPattern_X4_hasDigits : GoodIn wsX4_isPattern wsX4_hasDigits := goodIn_r _ [4, 5] (by decide +kernel) (by decide +kernel)
set_option maxRecDepth 20000 in
theorem gX4_isPattern_X4_hasDigits : GoodIn wsX4_isPattern (va_wsS RX4 9 yX4_hasDigits wsX4_hasDigits) := goodIn_app (goodIn_of _ (by decide +kernel)) ggX4_isPattern_X4_hasDigits
theorem dX4_isPattern_0 : decode cX4_isPattern 0 = .ok (.iload_n 0, 1) := by decide +kernel
theorem dX4_isPattern_1 : decode cX4_isPattern 1 = .ok (.bipush 9, 2) := by decide +kernel
theorem dX4_isPattern_3 : decode cX4_isPattern 3 = .ok (.invokestatic 9, 3) := by decide +kernel
theorem dX4_isPattern_6 : decode cX4_isPattern 6 = .ok (.ireturn, 1) := by decide +kernel
theorem dX4_hasDigits_0 : decode cX4_hasDigits 0 = .ok (.iload_n 0, 1) := by decide +kernel
theorem dX4_hasDigits_1 : decode cX4_hasDigits 1 = .ok (.iconst 1, 1) := by decide +kernel
theorem dX4_hasDigits_2 : decode cX4_hasDigits 2 = .ok (.if_icmp .lt 9, 3) := by decide +kernel
theorem dX4_hasDigits_5 : decode cX4_hasDigits 5 = .ok (.iload_n 0, 1) := by decide +kernel
theorem dX4_hasDigits_6 : decode cX4_hasDigits 6 = .ok (.ldc 15, 2) := by decide +kernel
theorem dX4_hasDigits_8 : decode cX4_hasDigits 8 = .ok (.if_icmp .le 5, 3) := by decide +kernel
theorem dX4_hasDigits_11 : decode cX4_hasDigits 11 = .ok (.iconst 0, 1) := by decide +kernel
theorem dX4_hasDigits_12 : decode cX4_hasDigits 12 = .ok (.ireturn, 1) := by decide +kernel
theorem dX4_hasDigits_13 : decode cX4_hasDigits 13 = .ok (.iload_n 0, 1) := by decide +kernel
theorem dX4_hasDigits_14 : decode cX4_hasDigits 14 = .ok (.istore_n 2, 1) := by decide +kernel
theorem dX4_hasDigits_15 : decode cX4_hasDigits 15 = .ok (.iconst 0, 1) := by decide +kernel
theorem dX4_hasDigits_16 : decode cX4_hasDigits 16 = .ok (.istore_n 3, 1) := by decide +kernel
theorem dX4_hasDigits_17 : decode cX4_hasDigits 17 = .ok (.iload_n 3, 1) := by decide +kernel
theorem dX4_hasDigits_18 : decode cX4_hasDigits 18 = .ok (.bipush 6, 2) := by decide +kernel
theorem dX4_hasDigits_20 : decode cX4_hasDigits 20 = .ok (.if_icmp .ge 38, 3) := by decide +kernel
theorem dX4_hasDigits_23 : decode cX4_hasDigits 23 = .ok (.iload_n 2, 1) := by decide +kernel
theorem dX4_hasDigits_24 : decode cX4_hasDigits 24 = .ok (.ifCond .le 34, 3) := by decide +kernel
theorem dX4_hasDigits_27 : decode cX4_hasDigits 27 = .ok (.iload_n 2, 1) := by decide +kernel
theorem dX4_hasDigits_28 : decode cX4_hasDigits 28 = .ok (.bipush 10, 2) := by decide +kernel
theorem dX4_hasDigits_30 : decode cX4_hasDigits 30 = .ok (.irem, 1) := by decide +kernel
theorem dX4_hasDigits_31 : decode cX4_hasDigits 31 = .ok (.istore 4, 2) := by decide +kernel
theorem dX4_hasDigits_33 : decode cX4_hasDigits 33 = .ok (.iload 4, 2) := by decide +kernel
theorem dX4_hasDigits_35 : decode cX4_hasDigits 35 = .ok (.iconst 1, 1) := by decide +kernel
theorem dX4_hasDigits_36 : decode cX4_hasDigits 36 = .ok (.if_icmp .lt 9, 3) := by decide +kernel
theorem dX4_hasDigits_39 : decode cX4_hasDigits 39 = .ok (.iload 4, 2) := by decide +kernel
theorem dX4_hasDigits_41 : decode cX4_hasDigits 41 = .ok (.iload_n 1, 1) := by decide +kernel
theorem dX4_hasDigits_42 : decode cX4_hasDigits 42 = .ok (.if_icmp .le 5, 3) := by decide +kernel
theorem dX4_hasDigits_45 : decode cX4_hasDigits 45 = .ok (.iconst 0, 1) := by decide +kernel
theorem dX4_hasDigits_46 : decode cX4_hasDigits 46 = .ok (.ireturn, 1) := by decide +kernel
theorem dX4_hasDigits_47 : decode cX4_hasDigits 47 = .ok (.iload_n 2, 1) := by decide +kernel
theorem dX4_hasDigits_48 : decode cX4_hasDigits 48 = .ok (.bipush 10, 2) := by decide +kernel
theorem dX4_hasDigits_50 : decode cX4_hasDigits 50 = .ok (.idiv, 1) := by decide +kernel
theorem dX4_hasDigits_51 : decode cX4_hasDigits 51 = .ok (.istore_n 2, 1) := by decide +kernel
theorem dX4_hasDigits_52 : decode cX4_hasDigits 52 = .ok (.iinc 3 1, 3) := by decide +kernel
theorem dX4_hasDigits_55 : decode cX4_hasDigits 55 = .ok (.goto (-38), 3) := by decide +kernel
theorem dX4_hasDigits_58 : decode cX4_hasDigits 58 = .ok (.iconst 1, 1) := by decide +kernel
theorem dX4_hasDigits_59 : decode cX4_hasDigits 59 = .ok (.ireturn, 1) := by decide +kernel
theorem dX4_length_0 : decode cX4_length 0 = .ok (.iconst 0, 1) := by decide +kernel
theorem dX4_length_1 : decode cX4_length 1 = .ok (.istore_n 1, 1) := by decide +kernel
theorem dX4_length_2 : decode cX4_length 2 = .ok (.iload_n 0, 1) := by decide +kernel
theorem dX4_length_3 : decode cX4_length 3 = .ok (.istore_n 2, 1) := by decide +kernel
theorem dX4_length_4 : decode cX4_length 4 = .ok (.iconst 0, 1) := by decide +kernel
theorem dX4_length_5 : decode cX4_length 5 = .ok (.istore_n 3, 1) := by decide +kernel
theorem dX4_length_6 : decode cX4_length 6 = .ok (.iload_n 3, 1) := by decide +kernel
theorem dX4_length_7 : decode cX4_length 7 = .ok (.bipush 6, 2) := by decide +kernel
theorem dX4_length_9 : decode cX4_length 9 = .ok (.if_icmp .ge 21, 3) := by decide +kernel
theorem dX4_length_12 : decode cX4_length 12 = .ok (.iload_n 2, 1) := by decide +kernel
theorem dX4_length_13 : decode cX4_length 13 = .ok (.ifCond .le 17, 3) := by decide +kernel
theorem dX4_length_16 : decode cX4_length 16 = .ok (.iinc 1 1, 3) := by decide +kernel
theorem dX4_length_19 : decode cX4_length 19 = .ok (.iload_n 2, 1) := by decide +kernel
theorem dX4_length_20 : decode cX4_length 20 = .ok (.bipush 10, 2) := by decide +kernel
theorem dX4_length_22 : decode cX4_length 22 = .ok (.idiv, 1) := by decide +kernel
theorem dX4_length_23 : decode cX4_length 23 = .ok (.istore_n 2, 1) := by decide +kernel
theorem dX4_length_24 : decode cX4_length 24 = .ok (.iinc 3 1, 3) := by decide +kernel
theorem dX4_length_27 : decode cX4_length 27 = .ok (.goto (-21), 3) := by decide +kernel
theorem dX4_length_30 : decode cX4_length 30 = .ok (.iload_n 1, 1) := by decide +kernel
theorem dX4_length_31 : decode cX4_length 31 = .ok (.ireturn, 1) := by decide +kernel
theorem dX4_withoutLast_0 : decode cX4_withoutLast 0 = .ok (.iload_n 0, 1) := by decide +kernel
theorem dX4_withoutLast_1 : decode cX4_withoutLast 1 = .ok (.istore_n 2, 1) := by decide +kernel
theorem dX4_withoutLast_2 : decode cX4_withoutLast 2 = .ok (.iconst 0, 1) := by decide +kernel
theorem dX4_withoutLast_3 : decode cX4_withoutLast 3 = .ok (.istore_n 3, 1) := by decide +kernel
theorem dX4_withoutLast_4 : decode cX4_withoutLast 4 = .ok (.iload_n 3, 1) := by decide +kernel
theorem dX4_withoutLast_5 : decode cX4_withoutLast 5 = .ok (.iload_n 1, 1) := by decide +kernel
theorem dX4_withoutLast_6 : decode cX4_withoutLast 6 = .ok (.if_icmp .ge 14, 3) := by decide +kernel
theorem dX4_withoutLast_9 : decode cX4_withoutLast 9 = .ok (.iload_n 2, 1) := by decide +kernel
theorem dX4_withoutLast_10 : decode cX4_withoutLast 10 = .ok (.bipush 10, 2) := by decide +kernel
theorem dX4_withoutLast_12 : decode cX4_withoutLast 12 = .ok (.idiv, 1) := by decide +kernel
theorem dX4_withoutLast_13 : decode cX4_withoutLast 13 = .ok (.istore_n 2, 1) := by decide +kernel
theorem dX4_withoutLast_14 : decode cX4_withoutLast 14 = .ok (.iinc 3 1, 3) := by decide +kernel
theorem dX4_withoutLast_17 : decode cX4_withoutLast 17 = .ok (.goto (-13), 3) := by decide +kernel
theorem dX4_withoutLast_20 : decode cX4_withoutLast 20 = .ok (.iload_n 2, 1) := by decide +kernel
theorem dX4_withoutLast_21 : decode cX4_withoutLast 21 = .ok (.ireturn, 1) := by decide +kernel
set_option maxRecDepth 20000 in
theorem ggX4_isBelow_X4_length : GoodIn wsX4_isBelow wsX4_length := goodIn_r _ [4] (by decide +kernel) (by decide +kernel)
set_option maxRecDepth 20000 in
theorem gX4_isBelow_X4_length : GoodIn wsX4_isBelow (va_wsS RX4 16 yX4_length wsX4_length) := goodIn_app (goodIn_of _ (by decide +kernel)) ggX4_isBelow_X4_length
set_option maxRecDepth 20000 in
theorem ggX4_isBelow_X4_withoutLast : GoodIn wsX4_isBelow wsX4_withoutLast := goodIn_r _ [7] (by decide +kernel) (by decide +kernel)
set_option maxRecDepth 20000 in
theorem gX4_isBelow_X4_withoutLast : GoodIn wsX4_isBelow (va_wsS RX4 20 yX4_withoutLast wsX4_withoutLast) := goodIn_app (goodIn_of _ (by decide +kernel)) ggX4_isBelow_X4_withoutLast
theorem dX4_isBelow_0 : decode cX4_isBelow 0 = .ok (.iload_n 0, 1) := by decide +kernel
theorem dX4_isBelow_1 : decode cX4_isBelow 1 = .ok (.invokestatic 16, 3) := by decide +kernel
theorem dX4_isBelow_4 : decode cX4_isBelow 4 = .ok (.iload_n 1, 1) := by decide +kernel
theorem dX4_isBelow_5 : decode cX4_isBelow 5 = .ok (.invokestatic 16, 3) := by decide +kernel
theorem dX4_isBelow_8 : decode cX4_isBelow 8 = .ok (.isub, 1) := by decide +kernel
theorem dX4_isBelow_9 : decode cX4_isBelow 9 = .ok (.istore_n 2, 1) := by decide +kernel
theorem dX4_isBelow_10 : decode cX4_isBelow 10 = .ok (.iload_n 2, 1) := by decide +kernel
theorem dX4_isBelow_11 : decode cX4_isBelow 11 = .ok (.ifCond .lt 16, 3) := by decide +kernel
theorem dX4_isBelow_14 : decode cX4_isBelow 14 = .ok (.iload_n 0, 1) := by decide +kernel
theorem dX4_isBelow_15 : decode cX4_isBelow 15 = .ok (.iload_n 2, 1) := by decide +kernel
theorem dX4_isBelow_16 : decode cX4_isBelow 16 = .ok (.invokestatic 20, 3) := by decide +kernel
theorem dX4_isBelow_19 : decode cX4_isBelow 19 = .ok (.iload_n 1, 1) := by decide +kernel
theorem dX4_isBelow_20 : decode cX4_isBelow 20 = .ok (.if_icmp .ne 7, 3) := by decide +kernel
theorem dX4_isBelow_23 : decode cX4_isBelow 23 = .ok (.iconst 1, 1) := by decide +kernel
theorem dX4_isBelow_24 : decode cX4_isBelow 24 = .ok (.goto 4, 3) := by decide +kernel
theorem dX4_isBelow_27 : decode cX4_isBelow 27 = .ok (.iconst 0, 1) := by decide +kernel
theorem dX4_isBelow_28 : decode cX4_isBelow 28 = .ok (.ireturn, 1) := by decide +kernel
set_option maxRecDepth 20000 in
theorem ggX4_fits_X4_length : GoodIn wsX4_fits wsX4_length := goodIn_r _ [4] (by decide +kernel) (by decide +kernel)
set_option maxRecDepth 20000 in
theorem gX4_fits_X4_length : GoodIn wsX4_fits (va_wsS RX4 16 yX4_length wsX4_length) := goodIn_app (goodIn_of _ (by decide +kernel)) ggX4_fits_X4_length
set_option maxRecDepth 20000 in
theorem ggX4_fits_X4_withoutLast : GoodIn wsX4_fits wsX4_withoutLast := goodIn_r _ [7] (by decide +kernel) (by decide +kernel)
set_option maxRecDepth 20000 in
theorem gX4_fits_X4_withoutLast : GoodIn wsX4_fits (va_wsS RX4 20 yX4_withoutLast wsX4_withoutLast) := goodIn_app (goodIn_of _ (by decide +kernel)) ggX4_fits_X4_withoutLast
theorem dX4_fits_0 : decode cX4_fits 0 = .ok (.iload_n 2, 1) := by decide +kernel
theorem dX4_fits_1 : decode cX4_fits 1 = .ok (.invokestatic 16, 3) := by decide +kernel
theorem dX4_fits_4 : decode cX4_fits 4 = .ok (.iload_n 0, 1) := by decide +kernel
theorem dX4_fits_5 : decode cX4_fits 5 = .ok (.invokestatic 16, 3) := by decide +kernel
theorem dX4_fits_8 : decode cX4_fits 8 = .ok (.isub, 1) := by decide +kernel
theorem dX4_fits_9 : decode cX4_fits 9 = .ok (.istore_n 3, 1) := by decide +kernel
theorem dX4_fits_10 : decode cX4_fits 10 = .ok (.iload_n 3, 1) := by decide +kernel
theorem dX4_fits_11 : decode cX4_fits 11 = .ok (.ifCond .lt 11, 3) := by decide +kernel
theorem dX4_fits_14 : decode cX4_fits 14 = .ok (.iload_n 3, 1) := by decide +kernel
theorem dX4_fits_15 : decode cX4_fits 15 = .ok (.ifCond .le 9, 3) := by decide +kernel
theorem dX4_fits_18 : decode cX4_fits 18 = .ok (.iload_n 1, 1) := by decide +kernel
theorem dX4_fits_19 : decode cX4_fits 19 = .ok (.ifCond .ne 5, 3) := by decide +kernel
theorem dX4_fits_22 : decode cX4_fits 22 = .ok (.iconst 0, 1) := by decide +kernel
theorem dX4_fits_23 : decode cX4_fits 23 = .ok (.ireturn, 1) := by decide +kernel
theorem dX4_fits_24 : decode cX4_fits 24 = .ok (.iload_n 0, 1) := by decide +kernel
theorem dX4_fits_25 : decode cX4_fits 25 = .ok (.istore 4, 2) := by decide +kernel
theorem dX4_fits_27 : decode cX4_fits 27 = .ok (.iload_n 2, 1) := by decide +kernel
theorem dX4_fits_28 : decode cX4_fits 28 = .ok (.iload_n 3, 1) := by decide +kernel
theorem dX4_fits_29 : decode cX4_fits 29 = .ok (.invokestatic 20, 3) := by decide +kernel
theorem dX4_fits_32 : decode cX4_fits 32 = .ok (.istore 5, 2) := by decide +kernel
theorem dX4_fits_34 : decode cX4_fits 34 = .ok (.iconst 0, 1) := by decide +kernel
theorem dX4_fits_35 : decode cX4_fits 35 = .ok (.istore 6, 2) := by decide +kernel
theorem dX4_fits_37 : decode cX4_fits 37 = .ok (.iload 6, 2) := by decide +kernel
theorem dX4_fits_39 : decode cX4_fits 39 = .ok (.bipush 6, 2) := by decide +kernel
theorem dX4_fits_41 : decode cX4_fits 41 = .ok (.if_icmp .ge 54, 3) := by decide +kernel
theorem dX4_fits_44 : decode cX4_fits 44 = .ok (.iload 4, 2) := by decide +kernel
theorem dX4_fits_46 : decode cX4_fits 46 = .ok (.ifCond .le 49, 3) := by decide +kernel
theorem dX4_fits_49 : decode cX4_fits 49 = .ok (.iload 4, 2) := by decide +kernel
theorem dX4_fits_51 : decode cX4_fits 51 = .ok (.bipush 10, 2) := by decide +kernel
theorem dX4_fits_53 : decode cX4_fits 53 = .ok (.irem, 1) := by decide +kernel
theorem dX4_fits_54 : decode cX4_fits 54 = .ok (.istore 7, 2) := by decide +kernel
theorem dX4_fits_56 : decode cX4_fits 56 = .ok (.iload 7, 2) := by decide +kernel
theorem dX4_fits_58 : decode cX4_fits 58 = .ok (.bipush 9, 2) := by decide +kernel
theorem dX4_fits_60 : decode cX4_fits 60 = .ok (.if_icmp .eq 15, 3) := by decide +kernel
theorem dX4_fits_63 : decode cX4_fits 63 = .ok (.iload 7, 2) := by decide +kernel
theorem dX4_fits_65 : decode cX4_fits 65 = .ok (.iload 5, 2) := by decide +kernel
theorem dX4_fits_67 : decode cX4_fits 67 = .ok (.bipush 10, 2) := by decide +kernel
theorem dX4_fits_69 : decode cX4_fits 69 = .ok (.irem, 1) := by decide +kernel
theorem dX4_fits_70 : decode cX4_fits 70 = .ok (.if_icmp .eq 5, 3) := by decide +kernel
theorem dX4_fits_73 : decode cX4_fits 73 = .ok (.iconst 0, 1) := by decide +kernel
theorem dX4_fits_74 : decode cX4_fits 74 = .ok (.ireturn, 1) := by decide +kernel
theorem dX4_fits_75 : decode cX4_fits 75 = .ok (.iload 4, 2) := by decide +kernel
theorem dX4_fits_77 : decode cX4_fits 77 = .ok (.bipush 10, 2) := by decide +kernel
theorem dX4_fits_79 : decode cX4_fits 79 = .ok (.idiv, 1) := by decide +kernel
theorem dX4_fits_80 : decode cX4_fits 80 = .ok (.istore 4, 2) := by decide +kernel
theorem dX4_fits_82 : decode cX4_fits 82 = .ok (.iload 5, 2) := by decide +kernel
theorem dX4_fits_84 : decode cX4_fits 84 = .ok (.bipush 10, 2) := by decide +kernel
theorem dX4_fits_86 : decode cX4_fits 86 = .ok (.idiv, 1) := by decide +kernel
theorem dX4_fits_87 : decode cX4_fits 87 = .ok (.istore 5, 2) := by decide +kernel
theorem dX4_fits_89 : decode cX4_fits 89 = .ok (.iinc 6 1, 3) := by decide +kernel
theorem dX4_fits_92 : decode cX4_fits 92 = .ok (.goto (-55), 3) := by decide +kernel
theorem dX4_fits_95 : decode cX4_fits 95 = .ok (.iconst 1, 1) := by decide +kernel
theorem dX4_fits_96 : decode cX4_fits 96 = .ok (.ireturn, 1) := by decide +kernel
theorem dX5_init_0 : decode cX5_init 0 = .ok (.aload_n 0, 1) := by decide +kernel
theorem dX5_init_1 : decode cX5_init 1 = .ok (.invokespecial 3, 3) := by decide +kernel
theorem dX5_init_4 : decode cX5_init 4 = .ok (.aload_n 0, 1) := by decide +kernel
theorem dX5_init_5 : decode cX5_init 5 = .ok (.bipush 8, 2) := by decide +kernel
theorem dX5_init_7 : decode cX5_init 7 = .ok (.newarray .int, 2) := by decide +kernel
theorem dX5_init_9 : decode cX5_init 9 = .ok (.putfield 9, 3) := by decide +kernel
theorem dX5_init_12 : decode cX5_init 12 = .ok (.aload_n 0, 1) := by decide +kernel
theorem dX5_init_13 : decode cX5_init 13 = .ok (.bipush 48, 2) := by decide +kernel
theorem dX5_init_15 : decode cX5_init 15 = .ok (.newarray .int, 2) := by decide +kernel
theorem dX5_init_17 : decode cX5_init 17 = .ok (.putfield 15, 3) := by decide +kernel
theorem dX5_init_20 : decode cX5_init 20 = .ok (.aload_n 0, 1) := by decide +kernel
theorem dX5_init_21 : decode cX5_init 21 = .ok (.bipush 48, 2) := by decide +kernel
theorem dX5_init_23 : decode cX5_init 23 = .ok (.newarray .boolean, 2) := by decide +kernel
theorem dX5_init_25 : decode cX5_init 25 = .ok (.putfield 18, 3) := by decide +kernel
theorem dX5_init_28 : decode cX5_init 28 = .ok (.aload_n 0, 1) := by decide +kernel
theorem dX5_init_29 : decode cX5_init 29 = .ok (.bipush 48, 2) := by decide +kernel
theorem dX5_init_31 : decode cX5_init 31 = .ok (.newarray .int, 2) := by decide +kernel
theorem dX5_init_33 : decode cX5_init 33 = .ok (.putfield 22, 3) := by decide +kernel
theorem dX5_init_36 : decode cX5_init 36 = .ok (.aload_n 0, 1) := by decide +kernel
theorem dX5_init_37 : decode cX5_init 37 = .ok (.iconst 0, 1) := by decide +kernel
theorem dX5_init_38 : decode cX5_init 38 = .ok (.putfield 25, 3) := by decide +kernel
theorem dX5_init_41 : decode cX5_init 41 = .ok (.return_, 1) := by decide +kernel
theorem dX5_count_0 : decode cX5_count 0 = .ok (.aload_n 0, 1) := by decide +kernel
theorem dX5_count_1 : decode cX5_count 1 = .ok (.getfield 25, 3) := by decide +kernel
theorem dX5_count_4 : decode cX5_count 4 = .ok (.ireturn, 1) := by decide +kernel
theorem dX5_has_0 : decode cX5_has 0 = .ok (.iload_n 1, 1) := by decide +kernel
theorem dX5_has_1 : decode cX5_has 1 = .ok (.ifCond .lt 15, 3) := by decide +kernel
theorem dX5_has_4 : decode cX5_has 4 = .ok (.iload_n 1, 1) := by decide +kernel
theorem dX5_has_5 : decode cX5_has 5 = .ok (.aload_n 0, 1) := by decide +kernel
theorem dX5_has_6 : decode cX5_has 6 = .ok (.getfield 25, 3) := by decide +kernel
theorem dX5_has_9 : decode cX5_has 9 = .ok (.if_icmp .ge 7, 3) := by decide +kernel
theorem dX5_has_12 : decode cX5_has 12 = .ok (.iconst 1, 1) := by decide +kernel
theorem dX5_has_13 : decode cX5_has 13 = .ok (.goto 4, 3) := by decide +kernel
theorem dX5_has_16 : decode cX5_has 16 = .ok (.iconst 0, 1) := by decide +kernel
theorem dX5_has_17 : decode cX5_has 17 = .ok (.ireturn, 1) := by decide +kernel
theorem dX5_hasAll_0 : decode cX5_hasAll 0 = .ok (.iload_n 1, 1) := by decide +kernel
theorem dX5_hasAll_1 : decode cX5_hasAll 1 = .ok (.ifCond .lt 17, 3) := by decide +kernel
theorem dX5_hasAll_4 : decode cX5_hasAll 4 = .ok (.iload_n 1, 1) := by decide +kernel
theorem dX5_hasAll_5 : decode cX5_hasAll 5 = .ok (.iconst 1, 1) := by decide +kernel
theorem dX5_hasAll_6 : decode cX5_hasAll 6 = .ok (.aload_n 0, 1) := by decide +kernel
theorem dX5_hasAll_7 : decode cX5_hasAll 7 = .ok (.getfield 25, 3) := by decide +kernel
theorem dX5_hasAll_10 : decode cX5_hasAll 10 = .ok (.ishl, 1) := by decide +kernel
theorem dX5_hasAll_11 : decode cX5_hasAll 11 = .ok (.if_icmp .ge 7, 3) := by decide +kernel
theorem dX5_hasAll_14 : decode cX5_hasAll 14 = .ok (.iconst 1, 1) := by decide +kernel
theorem dX5_hasAll_15 : decode cX5_hasAll 15 = .ok (.goto 4, 3) := by decide +kernel
theorem dX5_hasAll_18 : decode cX5_hasAll 18 = .ok (.iconst 0, 1) := by decide +kernel
theorem dX5_hasAll_19 : decode cX5_hasAll 19 = .ok (.ireturn, 1) := by decide +kernel
end
section
theorem dX5_add_0 : decode cX5_add 0 = .ok (.aload_n 0, 1) := by decide +kernel
theorem dX5_add_1 : decode cX5_add 1 = .ok (.dup, 1) := by decide +kernel
theorem dX5_add_2 : decode cX5_add 2 = .ok (.getfield 25, 3) := by decide +kernel
theorem dX5_add_5 : decode cX5_add 5 = .ok (.iconst 1, 1) := by decide +kernel
theorem dX5_add_6 : decode cX5_add 6 = .ok (.iadd, 1) := by decide +kernel
theorem dX5_add_7 : decode cX5_add 7 = .ok (.putfield 25, 3) := by decide +kernel
theorem dX5_add_10 : decode cX5_add 10 = .ok (.aload_n 0, 1) := by decide +kernel
theorem dX5_add_11 : decode cX5_add 11 = .ok (.getfield 25, 3) := by decide +kernel
theorem dX5_add_14 : decode cX5_add 14 = .ok (.iconst 1, 1) := by decide +kernel
theorem dX5_add_15 : decode cX5_add 15 = .ok (.isub, 1) := by decide +kernel
theorem dX5_add_16 : decode cX5_add 16 = .ok (.ireturn, 1) := by decide +kernel
set_option maxRecDepth 20000 in
theorem ggX5_rulesOf_X5_has : GoodIn wsX5_rulesOf wsX5_has := goodIn_r _ [6, 7, 8, 9, 10, 11, 12] (by decide +kernel) (by decide +kernel)
set_option maxRecDepth 20000 in
theorem gX5_rulesOf_X5_has : GoodIn wsX5_rulesOf (wsV RX5 29 RX5 yX5_has wsX5_has) := goodIn_app (goodIn_of _ (by decide +kernel)) ggX5_rulesOf_X5_has
theorem dX5_rulesOf_0 : decode cX5_rulesOf 0 = .ok (.aload_n 0, 1) := by decide +kernel
theorem dX5_rulesOf_1 : decode cX5_rulesOf 1 = .ok (.iload_n 1, 1) := by decide +kernel
theorem dX5_rulesOf_2 : decode cX5_rulesOf 2 = .ok (.invokevirtual 29, 3) := by decide +kernel
theorem dX5_rulesOf_5 : decode cX5_rulesOf 5 = .ok (.ifCond .eq 12, 3) := by decide +kernel
theorem dX5_rulesOf_8 : decode cX5_rulesOf 8 = .ok (.aload_n 0, 1) := by decide +kernel
theorem dX5_rulesOf_9 : decode cX5_rulesOf 9 = .ok (.getfield 9, 3) := by decide +kernel
theorem dX5_rulesOf_12 : decode cX5_rulesOf 12 = .ok (.iload_n 1, 1) := by decide +kernel
theorem dX5_rulesOf_13 : decode cX5_rulesOf 13 = .ok (.iaload, 1) := by decide +kernel
theorem dX5_rulesOf_14 : decode cX5_rulesOf 14 = .ok (.goto 4, 3) := by decide +kernel
theorem dX5_rulesOf_17 : decode cX5_rulesOf 17 = .ok (.iconst 0, 1) := by decide +kernel
theorem dX5_rulesOf_18 : decode cX5_rulesOf 18 = .ok (.ireturn, 1) := by decide +kernel
set_option maxRecDepth 20000 in
theorem ggX5_find_X5_rulesOf : GoodIn wsX5_find wsX5_rulesOf := goodIn_r _ [7, 8, 9, 10, 11, 6, 12, 13, 14, 15, 16, 17, 18] (by decide +kernel) (by decide +kernel)
set_option maxRecDepth 20000 in
theorem gX5_find_X5_rulesOf : GoodIn wsX5_find (wsV RX5 33 RX5 yX5_rulesOf wsX5_rulesOf) := goodIn_app (goodIn_of _ (by decide +kernel)) ggX5_find_X5_rulesOf
theorem dX5_find_0 : decode cX5_find 0 = .ok (.iload_n 1, 1) := by decide +kernel
theorem dX5_find_1 : decode cX5_find 1 = .ok (.bipush 6, 2) := by decide +kernel
theorem dX5_find_3 : decode cX5_find 3 = .ok (.imul, 1) := by decide +kernel
theorem dX5_find_4 : decode cX5_find 4 = .ok (.istore 4, 2) := by decide +kernel
theorem dX5_find_6 : decode cX5_find 6 = .ok (.iload 4, 2) := by decide +kernel
theorem dX5_find_8 : decode cX5_find 8 = .ok (.aload_n 0, 1) := by decide +kernel
theorem dX5_find_9 : decode cX5_find 9 = .ok (.iload_n 1, 1) := by decide +kernel
theorem dX5_find_10 : decode cX5_find 10 = .ok (.invokevirtual 33, 3) := by decide +kernel
theorem dX5_find_13 : decode cX5_find 13 = .ok (.iadd, 1) := by decide +kernel
theorem dX5_find_14 : decode cX5_find 14 = .ok (.istore 5, 2) := by decide +kernel
theorem dX5_find_16 : decode cX5_find 16 = .ok (.iload 4, 2) := by decide +kernel
theorem dX5_find_18 : decode cX5_find 18 = .ok (.istore 6, 2) := by decide +kernel
theorem dX5_find_20 : decode cX5_find 20 = .ok (.iload 6, 2) := by decide +kernel
theorem dX5_find_22 : decode cX5_find 22 = .ok (.iload 5, 2) := by decide +kernel
theorem dX5_find_24 : decode cX5_find 24 = .ok (.if_icmp .ge 34, 3) := by decide +kernel
theorem dX5_find_27 : decode cX5_find 27 = .ok (.aload_n 0, 1) := by decide +kernel
theorem dX5_find_28 : decode cX5_find 28 = .ok (.getfield 15, 3) := by decide +kernel
theorem dX5_find_31 : decode cX5_find 31 = .ok (.iload 6, 2) := by decide +kernel
theorem dX5_find_33 : decode cX5_find 33 = .ok (.iaload, 1) := by decide +kernel
theorem dX5_find_34 : decode cX5_find 34 = .ok (.iload_n 2, 1) := by decide +kernel
theorem dX5_find_35 : decode cX5_find 35 = .ok (.if_icmp .ne 17, 3) := by decide +kernel
theorem dX5_find_38 : decode cX5_find 38 = .ok (.aload_n 0, 1) := by decide +kernel
theorem dX5_find_39 : decode cX5_find 39 = .ok (.getfield 18, 3) := by decide +kernel
theorem dX5_find_42 : decode cX5_find 42 = .ok (.iload 6, 2) := by decide +kernel
theorem dX5_find_44 : decode cX5_find 44 = .ok (.baload, 1) := by decide +kernel
theorem dX5_find_45 : decode cX5_find 45 = .ok (.iload_n 3, 1) := by decide +kernel
theorem dX5_find_46 : decode cX5_find 46 = .ok (.if_icmp .ne 6, 3) := by decide +kernel
theorem dX5_find_49 : decode cX5_find 49 = .ok (.iload 6, 2) := by decide +kernel
theorem dX5_find_51 : decode cX5_find 51 = .ok (.ireturn, 1) := by decide +kernel
theorem dX5_find_52 : decode cX5_find 52 = .ok (.iinc 6 1, 3) := by decide +kernel
theorem dX5_find_55 : decode cX5_find 55 = .ok (.goto (-35), 3) := by decide +kernel
theorem dX5_find_58 : decode cX5_find 58 = .ok (.iconst (-1), 1) := by decide +kernel
theorem dX5_find_59 : decode cX5_find 59 = .ok (.ireturn, 1) := by decide +kernel
set_option maxRecDepth 20000 in
theorem ggX5_put_X5_find : GoodIn wsX5_put wsX5_find := goodIn_r _ [8, 1, 2, 9, 10, 11, 7, 12, 13, 14, 15, 16, 17, 18, 23, 24, 25, 26, 27] (by decide +kernel) (by decide +kernel)
set_option maxRecDepth 20000 in
theorem gX5_put_X5_find : GoodIn wsX5_put (wsV RX5 37 RX5 yX5_find wsX5_find) := goodIn_app (goodIn_of _ (by decide +kernel)) ggX5_put_X5_find
set_option maxRecDepth 20000 in
theorem ggX5_put_X5_addRule : GoodIn wsX5_put wsX5_addRule := goodIn_r _ [22, 13, 14, 15, 16, 7, 17, 18, 23, 24, 25, 26, 27] (by decide +kernel) (by decide +kernel)
set_option maxRecDepth 20000 in
theorem gX5_put_X5_addRule : GoodIn wsX5_put (wsV RX5 41 RX5 yX5_addRule wsX5_addRule) := goodIn_app (goodIn_of _ (by decide +kernel)) ggX5_put_X5_addRule
theorem dX5_put_0 : decode cX5_put 0 = .ok (.aload_n 0, 1) := by decide +kernel
theorem dX5_put_1 : decode cX5_put 1 = .ok (.iload_n 1, 1) := by decide +kernel
theorem dX5_put_2 : decode cX5_put 2 = .ok (.iload_n 2, 1) := by decide +kernel
theorem dX5_put_3 : decode cX5_put 3 = .ok (.iload_n 3, 1) := by decide +kernel
theorem dX5_put_4 : decode cX5_put 4 = .ok (.invokevirtual 37, 3) := by decide +kernel
theorem dX5_put_7 : decode cX5_put 7 = .ok (.istore 5, 2) := by decide +kernel
theorem dX5_put_9 : decode cX5_put 9 = .ok (.iload 5, 2) := by decide +kernel
theorem dX5_put_11 : decode cX5_put 11 = .ok (.iconst (-1), 1) := by decide +kernel
theorem dX5_put_12 : decode cX5_put 12 = .ok (.if_icmp .ne 10, 3) := by decide +kernel
theorem dX5_put_15 : decode cX5_put 15 = .ok (.aload_n 0, 1) := by decide +kernel
theorem dX5_put_16 : decode cX5_put 16 = .ok (.iload_n 1, 1) := by decide +kernel
theorem dX5_put_17 : decode cX5_put 17 = .ok (.invokevirtual 41, 3) := by decide +kernel
theorem dX5_put_20 : decode cX5_put 20 = .ok (.istore 5, 2) := by decide +kernel
theorem dX5_put_22 : decode cX5_put 22 = .ok (.iload 5, 2) := by decide +kernel
theorem dX5_put_24 : decode cX5_put 24 = .ok (.iconst (-1), 1) := by decide +kernel
theorem dX5_put_25 : decode cX5_put 25 = .ok (.if_icmp .eq 28, 3) := by decide +kernel
theorem dX5_put_28 : decode cX5_put 28 = .ok (.aload_n 0, 1) := by decide +kernel
theorem dX5_put_29 : decode cX5_put 29 = .ok (.getfield 15, 3) := by decide +kernel
theorem dX5_put_32 : decode cX5_put 32 = .ok (.iload 5, 2) := by decide +kernel
theorem dX5_put_34 : decode cX5_put 34 = .ok (.iload_n 2, 1) := by decide +kernel
theorem dX5_put_35 : decode cX5_put 35 = .ok (.iastore, 1) := by decide +kernel
theorem dX5_put_36 : decode cX5_put 36 = .ok (.aload_n 0, 1) := by decide +kernel
theorem dX5_put_37 : decode cX5_put 37 = .ok (.getfield 18, 3) := by decide +kernel
theorem dX5_put_40 : decode cX5_put 40 = .ok (.iload 5, 2) := by decide +kernel
theorem dX5_put_42 : decode cX5_put 42 = .ok (.iload_n 3, 1) := by decide +kernel
theorem dX5_put_43 : decode cX5_put 43 = .ok (.bastore, 1) := by decide +kernel
theorem dX5_put_44 : decode cX5_put 44 = .ok (.aload_n 0, 1) := by decide +kernel
theorem dX5_put_45 : decode cX5_put 45 = .ok (.getfield 22, 3) := by decide +kernel
theorem dX5_put_48 : decode cX5_put 48 = .ok (.iload 5, 2) := by decide +kernel
theorem dX5_put_50 : decode cX5_put 50 = .ok (.iload 4, 2) := by decide +kernel
theorem dX5_put_52 : decode cX5_put 52 = .ok (.iastore, 1) := by decide +kernel
theorem dX5_put_53 : decode cX5_put 53 = .ok (.return_, 1) := by decide +kernel
set_option maxRecDepth 20000 in
theorem ggX5_addRule_X5_has : GoodIn wsX5_addRule wsX5_has := goodIn_r _ [6, 7, 8, 9, 10, 11, 12] (by decide +kernel) (by decide +kernel)
set_option maxRecDepth 20000 in
theorem gX5_addRule_X5_has : GoodIn wsX5_addRule (wsV RX5 29 RX5 yX5_has wsX5_has) := goodIn_app (goodIn_of _ (by decide +kernel)) ggX5_addRule_X5_has
theorem dX5_addRule_0 : decode cX5_addRule 0 = .ok (.aload_n 0, 1) := by decide +kernel
theorem dX5_addRule_1 : decode cX5_addRule 1 = .ok (.iload_n 1, 1) := by decide +kernel
theorem dX5_addRule_2 : decode cX5_addRule 2 = .ok (.invokevirtual 29, 3) := by decide +kernel
theorem dX5_addRule_5 : decode cX5_addRule 5 = .ok (.ifCond .eq 14, 3) := by decide +kernel
theorem dX5_addRule_8 : decode cX5_addRule 8 = .ok (.aload_n 0, 1) := by decide +kernel
theorem dX5_addRule_9 : decode cX5_addRule 9 = .ok (.getfield 9, 3) := by decide +kernel
theorem dX5_addRule_12 : decode cX5_addRule 12 = .ok (.iload_n 1, 1) := by decide +kernel
theorem dX5_addRule_13 : decode cX5_addRule 13 = .ok (.iaload, 1) := by decide +kernel
theorem dX5_addRule_14 : decode cX5_addRule 14 = .ok (.bipush 6, 2) := by decide +kernel
theorem dX5_addRule_16 : decode cX5_addRule 16 = .ok (.if_icmp .lt 5, 3) := by decide +kernel
theorem dX5_addRule_19 : decode cX5_addRule 19 = .ok (.iconst (-1), 1) := by decide +kernel
theorem dX5_addRule_20 : decode cX5_addRule 20 = .ok (.ireturn, 1) := by decide +kernel
theorem dX5_addRule_21 : decode cX5_addRule 21 = .ok (.aload_n 0, 1) := by decide +kernel
theorem dX5_addRule_22 : decode cX5_addRule 22 = .ok (.getfield 9, 3) := by decide +kernel
theorem dX5_addRule_25 : decode cX5_addRule 25 = .ok (.iload_n 1, 1) := by decide +kernel
theorem dX5_addRule_26 : decode cX5_addRule 26 = .ok (.dup2, 1) := by decide +kernel
theorem dX5_addRule_27 : decode cX5_addRule 27 = .ok (.iaload, 1) := by decide +kernel
theorem dX5_addRule_28 : decode cX5_addRule 28 = .ok (.iconst 1, 1) := by decide +kernel
theorem dX5_addRule_29 : decode cX5_addRule 29 = .ok (.iadd, 1) := by decide +kernel
theorem dX5_addRule_30 : decode cX5_addRule 30 = .ok (.iastore, 1) := by decide +kernel
theorem dX5_addRule_31 : decode cX5_addRule 31 = .ok (.iload_n 1, 1) := by decide +kernel
theorem dX5_addRule_32 : decode cX5_addRule 32 = .ok (.bipush 6, 2) := by decide +kernel
theorem dX5_addRule_34 : decode cX5_addRule 34 = .ok (.imul, 1) := by decide +kernel
theorem dX5_addRule_35 : decode cX5_addRule 35 = .ok (.aload_n 0, 1) := by decide +kernel
theorem dX5_addRule_36 : decode cX5_addRule 36 = .ok (.getfield 9, 3) := by decide +kernel
theorem dX5_addRule_39 : decode cX5_addRule 39 = .ok (.iload_n 1, 1) := by decide +kernel
theorem dX5_addRule_40 : decode cX5_addRule 40 = .ok (.iaload, 1) := by decide +kernel
theorem dX5_addRule_41 : decode cX5_addRule 41 = .ok (.iadd, 1) := by decide +kernel
theorem dX5_addRule_42 : decode cX5_addRule 42 = .ok (.iconst 1, 1) := by decide +kernel
theorem dX5_addRule_43 : decode cX5_addRule 43 = .ok (.isub, 1) := by decide +kernel
theorem dX5_addRule_44 : decode cX5_addRule 44 = .ok (.ireturn, 1) := by decide +kernel
set_option maxRecDepth 20000 in
theorem ggX5_together_X5_decided : GoodIn wsX5_together wsX5_decided := goodIn_r _ [6, 7, 8, 9, 10, 11, 12, 5, 13, 14, 15, 16, 17, 18, 1, 19, 20, 21, 22, 23, 24, 25, 26, 27, 28, 29, 30, 31, 32, 33, 34, 35, 36, 37, 38] (by decide +kernel) (by decide +kernel)
set_option maxRecDepth 20000 in
theorem gX5_together_X5_decided : GoodIn wsX5_together (wsV RX5 44 RX5 yX5_decided wsX5_decided) := goodIn_app (goodIn_of _ (by decide +kernel)) ggX5_together_X5_decided
theorem dX5_together_0 : decode cX5_together 0 = .ok (.iconst 0, 1) := by decide +kernel
theorem dX5_together_1 : decode cX5_together 1 = .ok (.istore_n 3, 1) := by decide +kernel
theorem dX5_together_2 : decode cX5_together 2 = .ok (.iconst 0, 1) := by decide +kernel
theorem dX5_together_3 : decode cX5_together 3 = .ok (.istore 4, 2) := by decide +kernel
theorem dX5_together_5 : decode cX5_together 5 = .ok (.iload 4, 2) := by decide +kernel
theorem dX5_together_7 : decode cX5_together 7 = .ok (.aload_n 0, 1) := by decide +kernel
theorem dX5_together_8 : decode cX5_together 8 = .ok (.getfield 25, 3) := by decide +kernel
theorem dX5_together_11 : decode cX5_together 11 = .ok (.if_icmp .ge 28, 3) := by decide +kernel
theorem dX5_together_14 : decode cX5_together 14 = .ok (.iload_n 1, 1) := by decide +kernel
theorem dX5_together_15 : decode cX5_together 15 = .ok (.iload 4, 2) := by decide +kernel
theorem dX5_together_17 : decode cX5_together 17 = .ok (.ishr, 1) := by decide +kernel
theorem dX5_together_18 : decode cX5_together 18 = .ok (.iconst 1, 1) := by decide +kernel
theorem dX5_together_19 : decode cX5_together 19 = .ok (.iand, 1) := by decide +kernel
theorem dX5_together_20 : decode cX5_together 20 = .ok (.ifCond .eq 13, 3) := by decide +kernel
theorem dX5_together_23 : decode cX5_together 23 = .ok (.iload_n 3, 1) := by decide +kernel
theorem dX5_together_24 : decode cX5_together 24 = .ok (.aload_n 0, 1) := by decide +kernel
theorem dX5_together_25 : decode cX5_together 25 = .ok (.iload 4, 2) := by decide +kernel
theorem dX5_together_27 : decode cX5_together 27 = .ok (.iload_n 2, 1) := by decide +kernel
theorem dX5_together_28 : decode cX5_together 28 = .ok (.invokevirtual 44, 3) := by decide +kernel
theorem dX5_together_31 : decode cX5_together 31 = .ok (.ior, 1) := by decide +kernel
theorem dX5_together_32 : decode cX5_together 32 = .ok (.istore_n 3, 1) := by decide +kernel
theorem dX5_together_33 : decode cX5_together 33 = .ok (.iinc 4 1, 3) := by decide +kernel
theorem dX5_together_36 : decode cX5_together 36 = .ok (.goto (-31), 3) := by decide +kernel
theorem dX5_together_39 : decode cX5_together 39 = .ok (.iload_n 3, 1) := by decide +kernel
theorem dX5_together_40 : decode cX5_together 40 = .ok (.ireturn, 1) := by decide +kernel
set_option maxRecDepth 20000 in
theorem ggX5_decided_X5_rulesOf : GoodIn wsX5_decided wsX5_rulesOf := goodIn_r _ [8, 9, 10, 11, 12, 7, 13, 14, 30, 31, 32, 33, 34] (by decide +kernel) (by decide +kernel)
set_option maxRecDepth 20000 in
theorem gX5_decided_X5_rulesOf : GoodIn wsX5_decided (wsV RX5 33 RX5 yX5_rulesOf wsX5_rulesOf) := goodIn_app (goodIn_of _ (by decide +kernel)) ggX5_decided_X5_rulesOf
set_option maxRecDepth 20000 in
theorem ggX5_decided_X4_fits : GoodIn wsX5_decided wsX4_fits := goodIn_r _ [18, 19, 20, 17, 21, 22, 23, 24] (by decide +kernel) (by decide +kernel)
set_option maxRecDepth 20000 in
theorem gX5_decided_X4_fits : GoodIn wsX5_decided (va_wsS RX5 48 yX4_fits wsX4_fits) := goodIn_app (goodIn_of _ (by decide +kernel)) ggX5_decided_X4_fits
set_option maxRecDepth 20000 in
theorem ggX5_decided_X5_goesAhead : GoodIn wsX5_decided wsX5_goesAhead := goodIn_r _ [28, 1, 2, 29, 20, 17, 21, 30, 31, 32, 33, 34] (by decide +kernel) (by decide +kernel)
set_option maxRecDepth 20000 in
theorem gX5_decided_X5_goesAhead : GoodIn wsX5_decided (wsV RX5 54 RX5 yX5_goesAhead wsX5_goesAhead) := goodIn_app (goodIn_of _ (by decide +kernel)) ggX5_decided_X5_goesAhead
theorem dX5_decided_0 : decode cX5_decided 0 = .ok (.iload_n 1, 1) := by decide +kernel
theorem dX5_decided_1 : decode cX5_decided 1 = .ok (.bipush 6, 2) := by decide +kernel
theorem dX5_decided_3 : decode cX5_decided 3 = .ok (.imul, 1) := by decide +kernel
theorem dX5_decided_4 : decode cX5_decided 4 = .ok (.istore_n 3, 1) := by decide +kernel
theorem dX5_decided_5 : decode cX5_decided 5 = .ok (.iload_n 3, 1) := by decide +kernel
theorem dX5_decided_6 : decode cX5_decided 6 = .ok (.aload_n 0, 1) := by decide +kernel
theorem dX5_decided_7 : decode cX5_decided 7 = .ok (.iload_n 1, 1) := by decide +kernel
theorem dX5_decided_8 : decode cX5_decided 8 = .ok (.invokevirtual 33, 3) := by decide +kernel
theorem dX5_decided_11 : decode cX5_decided 11 = .ok (.iadd, 1) := by decide +kernel
theorem dX5_decided_12 : decode cX5_decided 12 = .ok (.istore 4, 2) := by decide +kernel
theorem dX5_decided_14 : decode cX5_decided 14 = .ok (.iconst (-1), 1) := by decide +kernel
theorem dX5_decided_15 : decode cX5_decided 15 = .ok (.istore 5, 2) := by decide +kernel
theorem dX5_decided_17 : decode cX5_decided 17 = .ok (.iload_n 3, 1) := by decide +kernel
theorem dX5_decided_18 : decode cX5_decided 18 = .ok (.istore 6, 2) := by decide +kernel
theorem dX5_decided_20 : decode cX5_decided 20 = .ok (.iload 6, 2) := by decide +kernel
theorem dX5_decided_22 : decode cX5_decided 22 = .ok (.iload 4, 2) := by decide +kernel
theorem dX5_decided_24 : decode cX5_decided 24 = .ok (.if_icmp .ge 51, 3) := by decide +kernel
theorem dX5_decided_27 : decode cX5_decided 27 = .ok (.aload_n 0, 1) := by decide +kernel
theorem dX5_decided_28 : decode cX5_decided 28 = .ok (.getfield 15, 3) := by decide +kernel
theorem dX5_decided_31 : decode cX5_decided 31 = .ok (.iload 6, 2) := by decide +kernel
theorem dX5_decided_33 : decode cX5_decided 33 = .ok (.iaload, 1) := by decide +kernel
theorem dX5_decided_34 : decode cX5_decided 34 = .ok (.aload_n 0, 1) := by decide +kernel
theorem dX5_decided_35 : decode cX5_decided 35 = .ok (.getfield 18, 3) := by decide +kernel
theorem dX5_decided_38 : decode cX5_decided 38 = .ok (.iload 6, 2) := by decide +kernel
theorem dX5_decided_40 : decode cX5_decided 40 = .ok (.baload, 1) := by decide +kernel
theorem dX5_decided_41 : decode cX5_decided 41 = .ok (.iload_n 2, 1) := by decide +kernel
theorem dX5_decided_42 : decode cX5_decided 42 = .ok (.invokestatic 48, 3) := by decide +kernel
theorem dX5_decided_45 : decode cX5_decided 45 = .ok (.ifCond .eq 24, 3) := by decide +kernel
theorem dX5_decided_48 : decode cX5_decided 48 = .ok (.iload 5, 2) := by decide +kernel
theorem dX5_decided_50 : decode cX5_decided 50 = .ok (.iconst (-1), 1) := by decide +kernel
theorem dX5_decided_51 : decode cX5_decided 51 = .ok (.if_icmp .eq 14, 3) := by decide +kernel
theorem dX5_decided_54 : decode cX5_decided 54 = .ok (.aload_n 0, 1) := by decide +kernel
theorem dX5_decided_55 : decode cX5_decided 55 = .ok (.iload 6, 2) := by decide +kernel
theorem dX5_decided_57 : decode cX5_decided 57 = .ok (.iload 5, 2) := by decide +kernel
theorem dX5_decided_59 : decode cX5_decided 59 = .ok (.invokevirtual 54, 3) := by decide +kernel
theorem dX5_decided_62 : decode cX5_decided 62 = .ok (.ifCond .eq 7, 3) := by decide +kernel
theorem dX5_decided_65 : decode cX5_decided 65 = .ok (.iload 6, 2) := by decide +kernel
theorem dX5_decided_67 : decode cX5_decided 67 = .ok (.istore 5, 2) := by decide +kernel
theorem dX5_decided_69 : decode cX5_decided 69 = .ok (.iinc 6 1, 3) := by decide +kernel
theorem dX5_decided_72 : decode cX5_decided 72 = .ok (.goto (-52), 3) := by decide +kernel
theorem dX5_decided_75 : decode cX5_decided 75 = .ok (.iload 5, 2) := by decide +kernel
theorem dX5_decided_77 : decode cX5_decided 77 = .ok (.iconst (-1), 1) := by decide +kernel
theorem dX5_decided_78 : decode cX5_decided 78 = .ok (.if_icmp .ne 7, 3) := by decide +kernel
theorem dX5_decided_81 : decode cX5_decided 81 = .ok (.iconst 0, 1) := by decide +kernel
theorem dX5_decided_82 : decode cX5_decided 82 = .ok (.goto 10, 3) := by decide +kernel
theorem dX5_decided_85 : decode cX5_decided 85 = .ok (.aload_n 0, 1) := by decide +kernel
theorem dX5_decided_86 : decode cX5_decided 86 = .ok (.getfield 22, 3) := by decide +kernel
theorem dX5_decided_89 : decode cX5_decided 89 = .ok (.iload 5, 2) := by decide +kernel
theorem dX5_decided_91 : decode cX5_decided 91 = .ok (.iaload, 1) := by decide +kernel
theorem dX5_decided_92 : decode cX5_decided 92 = .ok (.ireturn, 1) := by decide +kernel
set_option maxRecDepth 20000 in
theorem ggX5_goesAhead_X4_length : GoodIn wsX5_goesAhead wsX4_length := goodIn_r _ [6] (by decide +kernel) (by decide +kernel)
set_option maxRecDepth 20000 in
theorem gX5_goesAhead_X4_length : GoodIn wsX5_goesAhead (va_wsS RX5 58 yX4_length wsX4_length) := goodIn_app (goodIn_of _ (by decide +kernel)) ggX5_goesAhead_X4_length
theorem dX5_goesAhead_0 : decode cX5_goesAhead 0 = .ok (.aload_n 0, 1) := by decide +kernel
theorem dX5_goesAhead_1 : decode cX5_goesAhead 1 = .ok (.getfield 15, 3) := by decide +kernel
theorem dX5_goesAhead_4 : decode cX5_goesAhead 4 = .ok (.iload_n 1, 1) := by decide +kernel
theorem dX5_goesAhead_5 : decode cX5_goesAhead 5 = .ok (.iaload, 1) := by decide +kernel
theorem dX5_goesAhead_6 : decode cX5_goesAhead 6 = .ok (.invokestatic 58, 3) := by decide +kernel
theorem dX5_goesAhead_9 : decode cX5_goesAhead 9 = .ok (.aload_n 0, 1) := by decide +kernel
theorem dX5_goesAhead_10 : decode cX5_goesAhead 10 = .ok (.getfield 15, 3) := by decide +kernel
theorem dX5_goesAhead_13 : decode cX5_goesAhead 13 = .ok (.iload_n 2, 1) := by decide +kernel
theorem dX5_goesAhead_14 : decode cX5_goesAhead 14 = .ok (.iaload, 1) := by decide +kernel
theorem dX5_goesAhead_15 : decode cX5_goesAhead 15 = .ok (.invokestatic 58, 3) := by decide +kernel
theorem dX5_goesAhead_18 : decode cX5_goesAhead 18 = .ok (.isub, 1) := by decide +kernel
theorem dX5_goesAhead_19 : decode cX5_goesAhead 19 = .ok (.istore_n 3, 1) := by decide +kernel
theorem dX5_goesAhead_20 : decode cX5_goesAhead 20 = .ok (.iload_n 3, 1) := by decide +kernel
theorem dX5_goesAhead_21 : decode cX5_goesAhead 21 = .ok (.ifCond .eq 13, 3) := by decide +kernel
theorem dX5_goesAhead_24 : decode cX5_goesAhead 24 = .ok (.iload_n 3, 1) := by decide +kernel
theorem dX5_goesAhead_25 : decode cX5_goesAhead 25 = .ok (.ifCond .le 7, 3) := by decide +kernel
theorem dX5_goesAhead_28 : decode cX5_goesAhead 28 = .ok (.iconst 1, 1) := by decide +kernel
theorem dX5_goesAhead_29 : decode cX5_goesAhead 29 = .ok (.goto 4, 3) := by decide +kernel
theorem dX5_goesAhead_32 : decode cX5_goesAhead 32 = .ok (.iconst 0, 1) := by decide +kernel
theorem dX5_goesAhead_33 : decode cX5_goesAhead 33 = .ok (.ireturn, 1) := by decide +kernel
theorem dX5_goesAhead_34 : decode cX5_goesAhead 34 = .ok (.aload_n 0, 1) := by decide +kernel
theorem dX5_goesAhead_35 : decode cX5_goesAhead 35 = .ok (.getfield 18, 3) := by decide +kernel
theorem dX5_goesAhead_38 : decode cX5_goesAhead 38 = .ok (.iload_n 1, 1) := by decide +kernel
theorem dX5_goesAhead_39 : decode cX5_goesAhead 39 = .ok (.baload, 1) := by decide +kernel
theorem dX5_goesAhead_40 : decode cX5_goesAhead 40 = .ok (.aload_n 0, 1) := by decide +kernel
theorem dX5_goesAhead_41 : decode cX5_goesAhead 41 = .ok (.getfield 18, 3) := by decide +kernel
theorem dX5_goesAhead_44 : decode cX5_goesAhead 44 = .ok (.iload_n 2, 1) := by decide +kernel
theorem dX5_goesAhead_45 : decode cX5_goesAhead 45 = .ok (.baload, 1) := by decide +kernel
theorem dX5_goesAhead_46 : decode cX5_goesAhead 46 = .ok (.if_icmp .eq 10, 3) := by decide +kernel
theorem dX5_goesAhead_49 : decode cX5_goesAhead 49 = .ok (.aload_n 0, 1) := by decide +kernel
theorem dX5_goesAhead_50 : decode cX5_goesAhead 50 = .ok (.getfield 18, 3) := by decide +kernel
theorem dX5_goesAhead_53 : decode cX5_goesAhead 53 = .ok (.iload_n 2, 1) := by decide +kernel
theorem dX5_goesAhead_54 : decode cX5_goesAhead 54 = .ok (.baload, 1) := by decide +kernel
theorem dX5_goesAhead_55 : decode cX5_goesAhead 55 = .ok (.ireturn, 1) := by decide +kernel
theorem dX5_goesAhead_56 : decode cX5_goesAhead 56 = .ok (.aload_n 0, 1) := by decide +kernel
theorem dX5_goesAhead_57 : decode cX5_goesAhead 57 = .ok (.getfield 15, 3) := by decide +kernel
theorem dX5_goesAhead_60 : decode cX5_goesAhead 60 = .ok (.iload_n 1, 1) := by decide +kernel
theorem dX5_goesAhead_61 : decode cX5_goesAhead 61 = .ok (.iaload, 1) := by decide +kernel
theorem dX5_goesAhead_62 : decode cX5_goesAhead 62 = .ok (.aload_n 0, 1) := by decide +kernel
theorem dX5_goesAhead_63 : decode cX5_goesAhead 63 = .ok (.getfield 15, 3) := by decide +kernel
theorem dX5_goesAhead_66 : decode cX5_goesAhead 66 = .ok (.iload_n 2, 1) := by decide +kernel
theorem dX5_goesAhead_67 : decode cX5_goesAhead 67 = .ok (.iaload, 1) := by decide +kernel
theorem dX5_goesAhead_68 : decode cX5_goesAhead 68 = .ok (.if_icmp .ge 7, 3) := by decide +kernel
theorem dX5_goesAhead_71 : decode cX5_goesAhead 71 = .ok (.iconst 1, 1) := by decide +kernel
theorem dX5_goesAhead_72 : decode cX5_goesAhead 72 = .ok (.goto 4, 3) := by decide +kernel
theorem dX5_goesAhead_75 : decode cX5_goesAhead 75 = .ok (.iconst 0, 1) := by decide +kernel
theorem dX5_goesAhead_76 : decode cX5_goesAhead 76 = .ok (.ireturn, 1) := by decide +kernel
set_option maxRecDepth 20000 in
theorem ggX6_init_X2_init : GoodIn wsX6_init wsX2_init := goodIn_r _ [7, 8, 9, 10, 1, 11, 12, 13, 14, 15, 16, 17, 42, 43, 44, 45, 46, 47, 48, 49, 33, 34, 35, 36, 37, 38, 39, 40, 41] (by decide +kernel) (by decide +kernel)
set_option maxRecDepth 20000 in
theorem gX6_init_X2_init_n3 : GoodIn wsX6_init (wsX2_init) := ggX6_init_X2_init
set_option maxRecDepth 20000 in
theorem ggX6_init_X2_add : GoodIn wsX6_init wsX2_add := goodIn_r _ [22, 16, 11, 12, 13, 15, 17, 42, 43, 44, 45, 46, 47, 48, 49, 33, 34, 35, 36, 37, 38, 39, 40, 41] (by decide +kernel) (by decide +kernel)
set_option maxRecDepth 20000 in
theorem gX6_init_X2_add_u21X6 : GoodIn wsX6_init (va_wsU RX6 21 RX6 "SecretBroker$Leased" ⟨"SecretBroker$Tokens", "add", "(III)I"⟩ yX2_add wsX2_add) := goodIn_app (goodIn_of _ (by decide +kernel)) ggX6_init_X2_add
set_option maxRecDepth 20000 in
theorem ggX6_init_X6_describe : GoodIn wsX6_init wsX6_describe := goodIn_r _ [27, 2, 3, 4, 28, 29, 30, 31, 6, 32, 16, 33, 34, 35, 36, 37, 38, 39, 40, 41, 42, 43, 44, 45, 46, 47, 48, 49] (by decide +kernel) (by decide +kernel)
set_option maxRecDepth 20000 in
theorem gX6_init_X6_describe : GoodIn wsX6_init (wsV RX6 25 RX6 yX6_describe wsX6_describe) := goodIn_app (goodIn_of _ (by decide +kernel)) ggX6_init_X6_describe
theorem dX6_init_0 : decode cX6_init 0 = .ok (.aload_n 0, 1) := by decide +kernel
theorem dX6_init_1 : decode cX6_init 1 = .ok (.invokespecial 3, 3) := by decide +kernel
theorem dX6_init_4 : decode cX6_init 4 = .ok (.aload_n 0, 1) := by decide +kernel
theorem dX6_init_5 : decode cX6_init 5 = .ok (.sipush 513, 3) := by decide +kernel
theorem dX6_init_8 : decode cX6_init 8 = .ok (.newarray .int, 2) := by decide +kernel
theorem dX6_init_10 : decode cX6_init 10 = .ok (.putfield 9, 3) := by decide +kernel
theorem dX6_init_13 : decode cX6_init 13 = .ok (.aload_n 0, 1) := by decide +kernel
theorem dX6_init_14 : decode cX6_init 14 = .ok (.sipush 513, 3) := by decide +kernel
theorem dX6_init_17 : decode cX6_init 17 = .ok (.newarray .int, 2) := by decide +kernel
theorem dX6_init_19 : decode cX6_init 19 = .ok (.putfield 15, 3) := by decide +kernel
theorem dX6_init_22 : decode cX6_init 22 = .ok (.aload_n 0, 1) := by decide +kernel
theorem dX6_init_23 : decode cX6_init 23 = .ok (.sipush 513, 3) := by decide +kernel
theorem dX6_init_26 : decode cX6_init 26 = .ok (.newarray .int, 2) := by decide +kernel
theorem dX6_init_28 : decode cX6_init 28 = .ok (.putfield 18, 3) := by decide +kernel
theorem dX6_init_31 : decode cX6_init 31 = .ok (.aload_n 0, 1) := by decide +kernel
theorem dX6_init_32 : decode cX6_init 32 = .ok (.iconst 0, 1) := by decide +kernel
theorem dX6_init_33 : decode cX6_init 33 = .ok (.iconst (-1), 1) := by decide +kernel
theorem dX6_init_34 : decode cX6_init 34 = .ok (.iconst 0, 1) := by decide +kernel
theorem dX6_init_35 : decode cX6_init 35 = .ok (.invokevirtual 21, 3) := by decide +kernel
theorem dX6_init_38 : decode cX6_init 38 = .ok (.pop, 1) := by decide +kernel
theorem dX6_init_39 : decode cX6_init 39 = .ok (.aload_n 0, 1) := by decide +kernel
theorem dX6_init_40 : decode cX6_init 40 = .ok (.iconst 0, 1) := by decide +kernel
theorem dX6_init_41 : decode cX6_init 41 = .ok (.iconst (-1), 1) := by decide +kernel
theorem dX6_init_42 : decode cX6_init 42 = .ok (.iconst 0, 1) := by decide +kernel
theorem dX6_init_43 : decode cX6_init 43 = .ok (.iconst (-1), 1) := by decide +kernel
theorem dX6_init_44 : decode cX6_init 44 = .ok (.invokevirtual 25, 3) := by decide +kernel
theorem dX6_init_47 : decode cX6_init 47 = .ok (.return_, 1) := by decide +kernel
set_option maxRecDepth 20000 in
theorem ggX6_describe_X2_has : GoodIn wsX6_describe wsX2_has := goodIn_r _ [9, 10, 20, 21, 22, 23, 24, 25, 26, 27, 11, 12, 13, 14, 15, 16, 17, 18, 19] (by decide +kernel) (by decide +kernel)
set_option maxRecDepth 20000 in
theorem gX6_describe_X2_has_u29X6 : GoodIn wsX6_describe (va_wsU RX6 29 RX6 "SecretBroker$Leased" ⟨"SecretBroker$Tokens", "has", "(I)Z"⟩ yX2_has wsX2_has) := goodIn_app (goodIn_of _ (by decide +kernel)) ggX6_describe_X2_has
theorem dX6_describe_0 : decode cX6_describe 0 = .ok (.aload_n 0, 1) := by decide +kernel
theorem dX6_describe_1 : decode cX6_describe 1 = .ok (.iload_n 1, 1) := by decide +kernel
theorem dX6_describe_2 : decode cX6_describe 2 = .ok (.invokevirtual 29, 3) := by decide +kernel
theorem dX6_describe_5 : decode cX6_describe 5 = .ok (.ifCond .eq 25, 3) := by decide +kernel
theorem dX6_describe_8 : decode cX6_describe 8 = .ok (.aload_n 0, 1) := by decide +kernel
theorem dX6_describe_9 : decode cX6_describe 9 = .ok (.getfield 9, 3) := by decide +kernel
theorem dX6_describe_12 : decode cX6_describe 12 = .ok (.iload_n 1, 1) := by decide +kernel
theorem dX6_describe_13 : decode cX6_describe 13 = .ok (.iload_n 2, 1) := by decide +kernel
theorem dX6_describe_14 : decode cX6_describe 14 = .ok (.iastore, 1) := by decide +kernel
theorem dX6_describe_15 : decode cX6_describe 15 = .ok (.aload_n 0, 1) := by decide +kernel
theorem dX6_describe_16 : decode cX6_describe 16 = .ok (.getfield 15, 3) := by decide +kernel
theorem dX6_describe_19 : decode cX6_describe 19 = .ok (.iload_n 1, 1) := by decide +kernel
theorem dX6_describe_20 : decode cX6_describe 20 = .ok (.iload_n 3, 1) := by decide +kernel
theorem dX6_describe_21 : decode cX6_describe 21 = .ok (.iastore, 1) := by decide +kernel
theorem dX6_describe_22 : decode cX6_describe 22 = .ok (.aload_n 0, 1) := by decide +kernel
theorem dX6_describe_23 : decode cX6_describe 23 = .ok (.getfield 18, 3) := by decide +kernel
theorem dX6_describe_26 : decode cX6_describe 26 = .ok (.iload_n 1, 1) := by decide +kernel
theorem dX6_describe_27 : decode cX6_describe 27 = .ok (.iload 4, 2) := by decide +kernel
theorem dX6_describe_29 : decode cX6_describe 29 = .ok (.iastore, 1) := by decide +kernel
theorem dX6_describe_30 : decode cX6_describe 30 = .ok (.return_, 1) := by decide +kernel
set_option maxRecDepth 20000 in
theorem ggX6_parentAt_X2_has : GoodIn wsX6_parentAt wsX2_has := goodIn_r _ [7, 8, 18, 19, 20, 21, 22, 23, 24, 25, 9, 10, 11, 12, 13, 14, 15, 16, 17] (by decide +kernel) (by decide +kernel)
set_option maxRecDepth 20000 in
theorem gX6_parentAt_X2_has_u29X6 : GoodIn wsX6_parentAt (va_wsU RX6 29 RX6 "SecretBroker$Leased" ⟨"SecretBroker$Tokens", "has", "(I)Z"⟩ yX2_has wsX2_has) := goodIn_app (goodIn_of _ (by decide +kernel)) ggX6_parentAt_X2_has
theorem dX6_parentAt_0 : decode cX6_parentAt 0 = .ok (.aload_n 0, 1) := by decide +kernel
theorem dX6_parentAt_1 : decode cX6_parentAt 1 = .ok (.iload_n 1, 1) := by decide +kernel
theorem dX6_parentAt_2 : decode cX6_parentAt 2 = .ok (.invokevirtual 29, 3) := by decide +kernel
theorem dX6_parentAt_5 : decode cX6_parentAt 5 = .ok (.ifCond .eq 12, 3) := by decide +kernel
theorem dX6_parentAt_8 : decode cX6_parentAt 8 = .ok (.aload_n 0, 1) := by decide +kernel
theorem dX6_parentAt_9 : decode cX6_parentAt 9 = .ok (.getfield 9, 3) := by decide +kernel
theorem dX6_parentAt_12 : decode cX6_parentAt 12 = .ok (.iload_n 1, 1) := by decide +kernel
theorem dX6_parentAt_13 : decode cX6_parentAt 13 = .ok (.iaload, 1) := by decide +kernel
theorem dX6_parentAt_14 : decode cX6_parentAt 14 = .ok (.goto 4, 3) := by decide +kernel
theorem dX6_parentAt_17 : decode cX6_parentAt 17 = .ok (.iconst (-1), 1) := by decide +kernel
theorem dX6_parentAt_18 : decode cX6_parentAt 18 = .ok (.ireturn, 1) := by decide +kernel
set_option maxRecDepth 20000 in
theorem ggX6_policiesAt_X2_has : GoodIn wsX6_policiesAt wsX2_has := goodIn_r _ [7, 8, 18, 19, 20, 21, 22, 23, 24, 25, 9, 10, 11, 12, 13, 14, 15, 16, 17] (by decide +kernel) (by decide +kernel)
set_option maxRecDepth 20000 in
theorem gX6_policiesAt_X2_has_u29X6 : GoodIn wsX6_policiesAt (va_wsU RX6 29 RX6 "SecretBroker$Leased" ⟨"SecretBroker$Tokens", "has", "(I)Z"⟩ yX2_has wsX2_has) := goodIn_app (goodIn_of _ (by decide +kernel)) ggX6_policiesAt_X2_has
theorem dX6_policiesAt_0 : decode cX6_policiesAt 0 = .ok (.aload_n 0, 1) := by decide +kernel
theorem dX6_policiesAt_1 : decode cX6_policiesAt 1 = .ok (.iload_n 1, 1) := by decide +kernel
theorem dX6_policiesAt_2 : decode cX6_policiesAt 2 = .ok (.invokevirtual 29, 3) := by decide +kernel
theorem dX6_policiesAt_5 : decode cX6_policiesAt 5 = .ok (.ifCond .eq 12, 3) := by decide +kernel
theorem dX6_policiesAt_8 : decode cX6_policiesAt 8 = .ok (.aload_n 0, 1) := by decide +kernel
theorem dX6_policiesAt_9 : decode cX6_policiesAt 9 = .ok (.getfield 15, 3) := by decide +kernel
theorem dX6_policiesAt_12 : decode cX6_policiesAt 12 = .ok (.iload_n 1, 1) := by decide +kernel
theorem dX6_policiesAt_13 : decode cX6_policiesAt 13 = .ok (.iaload, 1) := by decide +kernel
theorem dX6_policiesAt_14 : decode cX6_policiesAt 14 = .ok (.goto 4, 3) := by decide +kernel
theorem dX6_policiesAt_17 : decode cX6_policiesAt 17 = .ok (.iconst 0, 1) := by decide +kernel
theorem dX6_policiesAt_18 : decode cX6_policiesAt 18 = .ok (.ireturn, 1) := by decide +kernel
set_option maxRecDepth 20000 in
theorem ggX6_usesAt_X2_has : GoodIn wsX6_usesAt wsX2_has := goodIn_r _ [7, 8, 18, 19, 20, 21, 22, 23, 24, 25, 9, 10, 11, 12, 13, 14, 15, 16, 17] (by decide +kernel) (by decide +kernel)
set_option maxRecDepth 20000 in
theorem gX6_usesAt_X2_has_u29X6 : GoodIn wsX6_usesAt (va_wsU RX6 29 RX6 "SecretBroker$Leased" ⟨"SecretBroker$Tokens", "has", "(I)Z"⟩ yX2_has wsX2_has) := goodIn_app (goodIn_of _ (by decide +kernel)) ggX6_usesAt_X2_has
theorem dX6_usesAt_0 : decode cX6_usesAt 0 = .ok (.aload_n 0, 1) := by decide +kernel
theorem dX6_usesAt_1 : decode cX6_usesAt 1 = .ok (.iload_n 1, 1) := by decide +kernel
theorem dX6_usesAt_2 : decode cX6_usesAt 2 = .ok (.invokevirtual 29, 3) := by decide +kernel
theorem dX6_usesAt_5 : decode cX6_usesAt 5 = .ok (.ifCond .eq 12, 3) := by decide +kernel
theorem dX6_usesAt_8 : decode cX6_usesAt 8 = .ok (.aload_n 0, 1) := by decide +kernel
theorem dX6_usesAt_9 : decode cX6_usesAt 9 = .ok (.getfield 18, 3) := by decide +kernel
theorem dX6_usesAt_12 : decode cX6_usesAt 12 = .ok (.iload_n 1, 1) := by decide +kernel
theorem dX6_usesAt_13 : decode cX6_usesAt 13 = .ok (.iaload, 1) := by decide +kernel
theorem dX6_usesAt_14 : decode cX6_usesAt 14 = .ok (.goto 4, 3) := by decide +kernel
theorem dX6_usesAt_17 : decode cX6_usesAt 17 = .ok (.iconst (-1), 1) := by decide +kernel
theorem dX6_usesAt_18 : decode cX6_usesAt 18 = .ok (.ireturn, 1) := by decide +kernel
set_option maxRecDepth 20000 in
theorem ggX6_takeUse_X2_isOn : GoodIn wsX6_takeUse wsX2_isOn := goodIn_r _ [7, 8, 9, 10, 11, 12, 6, 13, 14, 15, 25, 26, 27, 28, 29, 30, 31, 32, 16, 17, 18, 19, 20, 21, 22, 23, 24] (by decide +kernel) (by decide +kernel)
set_option maxRecDepth 20000 in
theorem gX6_takeUse_X2_isOn_u33X6 : GoodIn wsX6_takeUse (va_wsU RX6 33 RX6 "SecretBroker$Leased" ⟨"SecretBroker$Tokens", "isOn", "(I)Z"⟩ yX2_isOn wsX2_isOn) := goodIn_app (goodIn_of _ (by decide +kernel)) ggX6_takeUse_X2_isOn
theorem dX6_takeUse_0 : decode cX6_takeUse 0 = .ok (.aload_n 0, 1) := by decide +kernel
theorem dX6_takeUse_1 : decode cX6_takeUse 1 = .ok (.iload_n 1, 1) := by decide +kernel
theorem dX6_takeUse_2 : decode cX6_takeUse 2 = .ok (.invokevirtual 33, 3) := by decide +kernel
theorem dX6_takeUse_5 : decode cX6_takeUse 5 = .ok (.ifCond .eq 22, 3) := by decide +kernel
theorem dX6_takeUse_8 : decode cX6_takeUse 8 = .ok (.aload_n 0, 1) := by decide +kernel
theorem dX6_takeUse_9 : decode cX6_takeUse 9 = .ok (.getfield 18, 3) := by decide +kernel
theorem dX6_takeUse_12 : decode cX6_takeUse 12 = .ok (.iload_n 1, 1) := by decide +kernel
theorem dX6_takeUse_13 : decode cX6_takeUse 13 = .ok (.iaload, 1) := by decide +kernel
theorem dX6_takeUse_14 : decode cX6_takeUse 14 = .ok (.ifCond .le 13, 3) := by decide +kernel
theorem dX6_takeUse_17 : decode cX6_takeUse 17 = .ok (.aload_n 0, 1) := by decide +kernel
theorem dX6_takeUse_18 : decode cX6_takeUse 18 = .ok (.getfield 18, 3) := by decide +kernel
theorem dX6_takeUse_21 : decode cX6_takeUse 21 = .ok (.iload_n 1, 1) := by decide +kernel
theorem dX6_takeUse_22 : decode cX6_takeUse 22 = .ok (.dup2, 1) := by decide +kernel
theorem dX6_takeUse_23 : decode cX6_takeUse 23 = .ok (.iaload, 1) := by decide +kernel
theorem dX6_takeUse_24 : decode cX6_takeUse 24 = .ok (.iconst 1, 1) := by decide +kernel
theorem dX6_takeUse_25 : decode cX6_takeUse 25 = .ok (.isub, 1) := by decide +kernel
theorem dX6_takeUse_26 : decode cX6_takeUse 26 = .ok (.iastore, 1) := by decide +kernel
theorem dX6_takeUse_27 : decode cX6_takeUse 27 = .ok (.return_, 1) := by decide +kernel
set_option maxRecDepth 20000 in
theorem ggX6_freeChildren_X2_made : GoodIn wsX6_freeChildren wsX2_made := goodIn_r _ [7, 8, 30, 31, 32, 33, 34, 35, 36, 37, 21, 22, 23, 24, 25, 26, 27, 28, 29] (by decide +kernel) (by decide +kernel)
set_option maxRecDepth 20000 in
theorem gX6_freeChildren_X2_made_u36X6 : GoodIn wsX6_freeChildren (va_wsU RX6 36 RX6 "SecretBroker$Leased" ⟨"SecretBroker$Tokens", "made", "()I"⟩ yX2_made wsX2_made) := goodIn_app (goodIn_of _ (by decide +kernel)) ggX6_freeChildren_X2_made
set_option maxRecDepth 20000 in
theorem ggX6_freeChildren_X2_isOn : GoodIn wsX6_freeChildren wsX2_isOn := goodIn_r _ [13, 14, 15, 16, 17, 18, 6, 19, 8, 20, 30, 31, 32, 33, 34, 35, 36, 37, 21, 22, 23, 24, 25, 26, 27, 28, 29] (by decide +kernel) (by decide +kernel)
set_option maxRecDepth 20000 in
theorem gX6_freeChildren_X2_isOn_u33X6 : GoodIn wsX6_freeChildren (va_wsU RX6 33 RX6 "SecretBroker$Leased" ⟨"SecretBroker$Tokens", "isOn", "(I)Z"⟩ yX2_isOn wsX2_isOn) := goodIn_app (goodIn_of _ (by decide +kernel)) ggX6_freeChildren_X2_isOn
theorem dX6_freeChildren_0 : decode cX6_freeChildren 0 = .ok (.iconst 0, 1) := by decide +kernel
theorem dX6_freeChildren_1 : decode cX6_freeChildren 1 = .ok (.istore_n 2, 1) := by decide +kernel
theorem dX6_freeChildren_2 : decode cX6_freeChildren 2 = .ok (.iload_n 2, 1) := by decide +kernel
theorem dX6_freeChildren_3 : decode cX6_freeChildren 3 = .ok (.aload_n 0, 1) := by decide +kernel
theorem dX6_freeChildren_4 : decode cX6_freeChildren 4 = .ok (.invokevirtual 36, 3) := by decide +kernel
theorem dX6_freeChildren_7 : decode cX6_freeChildren 7 = .ok (.if_icmp .ge 34, 3) := by decide +kernel
theorem dX6_freeChildren_10 : decode cX6_freeChildren 10 = .ok (.aload_n 0, 1) := by decide +kernel
theorem dX6_freeChildren_11 : decode cX6_freeChildren 11 = .ok (.getfield 9, 3) := by decide +kernel
theorem dX6_freeChildren_14 : decode cX6_freeChildren 14 = .ok (.iload_n 2, 1) := by decide +kernel
theorem dX6_freeChildren_15 : decode cX6_freeChildren 15 = .ok (.iaload, 1) := by decide +kernel
theorem dX6_freeChildren_16 : decode cX6_freeChildren 16 = .ok (.iload_n 1, 1) := by decide +kernel
theorem dX6_freeChildren_17 : decode cX6_freeChildren 17 = .ok (.if_icmp .ne 18, 3) := by decide +kernel
theorem dX6_freeChildren_20 : decode cX6_freeChildren 20 = .ok (.aload_n 0, 1) := by decide +kernel
theorem dX6_freeChildren_21 : decode cX6_freeChildren 21 = .ok (.iload_n 2, 1) := by decide +kernel
theorem dX6_freeChildren_22 : decode cX6_freeChildren 22 = .ok (.invokevirtual 33, 3) := by decide +kernel
theorem dX6_freeChildren_25 : decode cX6_freeChildren 25 = .ok (.ifCond .eq 10, 3) := by decide +kernel
theorem dX6_freeChildren_28 : decode cX6_freeChildren 28 = .ok (.aload_n 0, 1) := by decide +kernel
theorem dX6_freeChildren_29 : decode cX6_freeChildren 29 = .ok (.getfield 9, 3) := by decide +kernel
theorem dX6_freeChildren_32 : decode cX6_freeChildren 32 = .ok (.iload_n 2, 1) := by decide +kernel
theorem dX6_freeChildren_33 : decode cX6_freeChildren 33 = .ok (.iconst (-1), 1) := by decide +kernel
theorem dX6_freeChildren_34 : decode cX6_freeChildren 34 = .ok (.iastore, 1) := by decide +kernel
theorem dX6_freeChildren_35 : decode cX6_freeChildren 35 = .ok (.iinc 2 1, 3) := by decide +kernel
theorem dX6_freeChildren_38 : decode cX6_freeChildren 38 = .ok (.goto (-36), 3) := by decide +kernel
theorem dX6_freeChildren_41 : decode cX6_freeChildren 41 = .ok (.return_, 1) := by decide +kernel
set_option maxRecDepth 20000 in
theorem ggX6_endBelowEnded_X2_made : GoodIn wsX6_endBelowEnded wsX2_made := goodIn_r _ [7, 8, 40, 41, 42, 43, 44, 45, 46, 47, 31, 32, 33, 34, 35, 36, 37, 38, 39] (by decide +kernel) (by decide +kernel)
set_option maxRecDepth 20000 in
theorem gX6_endBelowEnded_X2_made_u36X6 : GoodIn wsX6_endBelowEnded (va_wsU RX6 36 RX6 "SecretBroker$Leased" ⟨"SecretBroker$Tokens", "made", "()I"⟩ yX2_made wsX2_made) := goodIn_app (goodIn_of _ (by decide +kernel)) ggX6_endBelowEnded_X2_made
set_option maxRecDepth 20000 in
theorem ggX6_endBelowEnded_X2_isOn : GoodIn wsX6_endBelowEnded wsX2_isOn := goodIn_r _ [13, 14, 15, 16, 17, 18, 6, 19, 8, 20, 40, 41, 42, 43, 44, 45, 46, 47, 31, 32, 33, 34, 35, 36, 37, 38, 39] (by decide +kernel) (by decide +kernel)
set_option maxRecDepth 20000 in
theorem gX6_endBelowEnded_X2_isOn_u33X6 : GoodIn wsX6_endBelowEnded (va_wsU RX6 33 RX6 "SecretBroker$Leased" ⟨"SecretBroker$Tokens", "isOn", "(I)Z"⟩ yX2_isOn wsX2_isOn) := goodIn_app (goodIn_of _ (by decide +kernel)) ggX6_endBelowEnded_X2_isOn
set_option maxRecDepth 20000 in
theorem ggX6_endBelowEnded_X2_end : GoodIn wsX6_endBelowEnded wsX2_end := goodIn_r _ [25, 14, 26, 27, 28, 29, 12, 6, 13, 15, 16, 17, 18, 19, 8, 20, 30, 40, 41, 42, 43, 44, 45, 46, 47, 31, 32, 33, 34, 35, 36, 37, 38, 39] (by decide +kernel) (by decide +kernel)
set_option maxRecDepth 20000 in
theorem gX6_endBelowEnded_X2_end_u40X6 : GoodIn wsX6_endBelowEnded (va_wsU RX6 40 RX6 "SecretBroker$Leased" ⟨"SecretBroker$Tokens", "end", "(I)I"⟩ yX2_end wsX2_end) := goodIn_app (goodIn_of _ (by decide +kernel)) ggX6_endBelowEnded_X2_end
theorem dX6_endBelowEnded_0 : decode cX6_endBelowEnded 0 = .ok (.iconst 0, 1) := by decide +kernel
theorem dX6_endBelowEnded_1 : decode cX6_endBelowEnded 1 = .ok (.istore_n 1, 1) := by decide +kernel
theorem dX6_endBelowEnded_2 : decode cX6_endBelowEnded 2 = .ok (.iconst 0, 1) := by decide +kernel
theorem dX6_endBelowEnded_3 : decode cX6_endBelowEnded 3 = .ok (.istore_n 2, 1) := by decide +kernel
theorem dX6_endBelowEnded_4 : decode cX6_endBelowEnded 4 = .ok (.iload_n 2, 1) := by decide +kernel
theorem dX6_endBelowEnded_5 : decode cX6_endBelowEnded 5 = .ok (.aload_n 0, 1) := by decide +kernel
theorem dX6_endBelowEnded_6 : decode cX6_endBelowEnded 6 = .ok (.invokevirtual 36, 3) := by decide +kernel
theorem dX6_endBelowEnded_9 : decode cX6_endBelowEnded 9 = .ok (.if_icmp .ge 40, 3) := by decide +kernel
theorem dX6_endBelowEnded_12 : decode cX6_endBelowEnded 12 = .ok (.aload_n 0, 1) := by decide +kernel
theorem dX6_endBelowEnded_13 : decode cX6_endBelowEnded 13 = .ok (.getfield 9, 3) := by decide +kernel
theorem dX6_endBelowEnded_16 : decode cX6_endBelowEnded 16 = .ok (.iload_n 2, 1) := by decide +kernel
theorem dX6_endBelowEnded_17 : decode cX6_endBelowEnded 17 = .ok (.iaload, 1) := by decide +kernel
theorem dX6_endBelowEnded_18 : decode cX6_endBelowEnded 18 = .ok (.iconst (-1), 1) := by decide +kernel
theorem dX6_endBelowEnded_19 : decode cX6_endBelowEnded 19 = .ok (.if_icmp .eq 24, 3) := by decide +kernel
theorem dX6_endBelowEnded_22 : decode cX6_endBelowEnded 22 = .ok (.aload_n 0, 1) := by decide +kernel
theorem dX6_endBelowEnded_23 : decode cX6_endBelowEnded 23 = .ok (.aload_n 0, 1) := by decide +kernel
theorem dX6_endBelowEnded_24 : decode cX6_endBelowEnded 24 = .ok (.getfield 9, 3) := by decide +kernel
theorem dX6_endBelowEnded_27 : decode cX6_endBelowEnded 27 = .ok (.iload_n 2, 1) := by decide +kernel
theorem dX6_endBelowEnded_28 : decode cX6_endBelowEnded 28 = .ok (.iaload, 1) := by decide +kernel
theorem dX6_endBelowEnded_29 : decode cX6_endBelowEnded 29 = .ok (.invokevirtual 33, 3) := by decide +kernel
theorem dX6_endBelowEnded_32 : decode cX6_endBelowEnded 32 = .ok (.ifCond .ne 11, 3) := by decide +kernel
theorem dX6_endBelowEnded_35 : decode cX6_endBelowEnded 35 = .ok (.iload_n 1, 1) := by decide +kernel
theorem dX6_endBelowEnded_36 : decode cX6_endBelowEnded 36 = .ok (.aload_n 0, 1) := by decide +kernel
theorem dX6_endBelowEnded_37 : decode cX6_endBelowEnded 37 = .ok (.iload_n 2, 1) := by decide +kernel
theorem dX6_endBelowEnded_38 : decode cX6_endBelowEnded 38 = .ok (.invokevirtual 40, 3) := by decide +kernel
theorem dX6_endBelowEnded_41 : decode cX6_endBelowEnded 41 = .ok (.iadd, 1) := by decide +kernel
theorem dX6_endBelowEnded_42 : decode cX6_endBelowEnded 42 = .ok (.istore_n 1, 1) := by decide +kernel
theorem dX6_endBelowEnded_43 : decode cX6_endBelowEnded 43 = .ok (.iinc 2 1, 3) := by decide +kernel
theorem dX6_endBelowEnded_46 : decode cX6_endBelowEnded 46 = .ok (.goto (-42), 3) := by decide +kernel
theorem dX6_endBelowEnded_49 : decode cX6_endBelowEnded 49 = .ok (.iload_n 1, 1) := by decide +kernel
theorem dX6_endBelowEnded_50 : decode cX6_endBelowEnded 50 = .ok (.ireturn, 1) := by decide +kernel
set_option maxRecDepth 20000 in
theorem ggX6_livingBelow_X2_made : GoodIn wsX6_livingBelow wsX2_made := goodIn_r _ [6, 7, 33, 34, 35, 36, 37, 38, 39, 40, 41, 42, 43, 44, 45, 46, 47, 48, 49] (by decide +kernel) (by decide +kernel)
set_option maxRecDepth 20000 in
theorem gX6_livingBelow_X2_made_u36X6 : GoodIn wsX6_livingBelow (va_wsU RX6 36 RX6 "SecretBroker$Leased" ⟨"SecretBroker$Tokens", "made", "()I"⟩ yX2_made wsX2_made) := goodIn_app (goodIn_of _ (by decide +kernel)) ggX6_livingBelow_X2_made
set_option maxRecDepth 20000 in
theorem ggX6_livingBelow_X2_isOn : GoodIn wsX6_livingBelow wsX2_isOn := goodIn_r _ [12, 13, 14, 15, 16, 17, 5, 18, 7, 19, 33, 34, 35, 36, 37, 38, 39, 40, 41, 42, 43, 44, 45, 46, 47, 48, 49] (by decide +kernel) (by decide +kernel)
set_option maxRecDepth 20000 in
theorem gX6_livingBelow_X2_isOn_u33X6 : GoodIn wsX6_livingBelow (va_wsU RX6 33 RX6 "SecretBroker$Leased" ⟨"SecretBroker$Tokens", "isOn", "(I)Z"⟩ yX2_isOn wsX2_isOn) := goodIn_app (goodIn_of _ (by decide +kernel)) ggX6_livingBelow_X2_isOn
set_option maxRecDepth 20000 in
theorem ggX6_livingBelow_X6_hangsBelow : GoodIn wsX6_livingBelow wsX6_hangsBelow := goodIn_r _ [24, 25, 26, 27, 23, 28, 29, 30, 31, 32, 17, 5, 18, 7, 41, 42, 43, 44, 45, 46, 47, 48, 49, 33, 34, 35, 36, 37, 38, 39, 40] (by decide +kernel) (by decide +kernel)
set_option maxRecDepth 20000 in
theorem gX6_livingBelow_X6_hangsBelow : GoodIn wsX6_livingBelow (wsV RX6 44 RX6 yX6_hangsBelow wsX6_hangsBelow) := goodIn_app (goodIn_of _ (by decide +kernel)) ggX6_livingBelow_X6_hangsBelow
theorem dX6_livingBelow_0 : decode cX6_livingBelow 0 = .ok (.iconst 0, 1) := by decide +kernel
theorem dX6_livingBelow_1 : decode cX6_livingBelow 1 = .ok (.istore_n 2, 1) := by decide +kernel
theorem dX6_livingBelow_2 : decode cX6_livingBelow 2 = .ok (.iconst 0, 1) := by decide +kernel
theorem dX6_livingBelow_3 : decode cX6_livingBelow 3 = .ok (.istore_n 3, 1) := by decide +kernel
theorem dX6_livingBelow_4 : decode cX6_livingBelow 4 = .ok (.iload_n 3, 1) := by decide +kernel
theorem dX6_livingBelow_5 : decode cX6_livingBelow 5 = .ok (.aload_n 0, 1) := by decide +kernel
theorem dX6_livingBelow_6 : decode cX6_livingBelow 6 = .ok (.invokevirtual 36, 3) := by decide +kernel
theorem dX6_livingBelow_9 : decode cX6_livingBelow 9 = .ok (.if_icmp .ge 29, 3) := by decide +kernel
theorem dX6_livingBelow_12 : decode cX6_livingBelow 12 = .ok (.aload_n 0, 1) := by decide +kernel
theorem dX6_livingBelow_13 : decode cX6_livingBelow 13 = .ok (.iload_n 3, 1) := by decide +kernel
theorem dX6_livingBelow_14 : decode cX6_livingBelow 14 = .ok (.invokevirtual 33, 3) := by decide +kernel
theorem dX6_livingBelow_17 : decode cX6_livingBelow 17 = .ok (.ifCond .eq 15, 3) := by decide +kernel
theorem dX6_livingBelow_20 : decode cX6_livingBelow 20 = .ok (.aload_n 0, 1) := by decide +kernel
theorem dX6_livingBelow_21 : decode cX6_livingBelow 21 = .ok (.iload_n 3, 1) := by decide +kernel
theorem dX6_livingBelow_22 : decode cX6_livingBelow 22 = .ok (.iload_n 1, 1) := by decide +kernel
theorem dX6_livingBelow_23 : decode cX6_livingBelow 23 = .ok (.invokevirtual 44, 3) := by decide +kernel
theorem dX6_livingBelow_26 : decode cX6_livingBelow 26 = .ok (.ifCond .eq 6, 3) := by decide +kernel
theorem dX6_livingBelow_29 : decode cX6_livingBelow 29 = .ok (.iinc 2 1, 3) := by decide +kernel
theorem dX6_livingBelow_32 : decode cX6_livingBelow 32 = .ok (.iinc 3 1, 3) := by decide +kernel
theorem dX6_livingBelow_35 : decode cX6_livingBelow 35 = .ok (.goto (-31), 3) := by decide +kernel
theorem dX6_livingBelow_38 : decode cX6_livingBelow 38 = .ok (.iload_n 2, 1) := by decide +kernel
theorem dX6_livingBelow_39 : decode cX6_livingBelow 39 = .ok (.ireturn, 1) := by decide +kernel
set_option maxRecDepth 20000 in
theorem ggX6_hangsBelow_X6_parentAt : GoodIn wsX6_hangsBelow wsX6_parentAt := goodIn_r _ [5, 6, 7, 8, 9, 10, 11, 12, 13, 14, 15, 16, 17, 18, 19, 20, 21, 22, 23, 24, 25, 26, 27, 28, 29, 30] (by decide +kernel) (by decide +kernel)
set_option maxRecDepth 20000 in
theorem gX6_hangsBelow_X6_parentAt : GoodIn wsX6_hangsBelow (wsV RX6 48 RX6 yX6_parentAt wsX6_parentAt) := goodIn_app (goodIn_of _ (by decide +kernel)) ggX6_hangsBelow_X6_parentAt
theorem dX6_hangsBelow_0 : decode cX6_hangsBelow 0 = .ok (.aload_n 0, 1) := by decide +kernel
theorem dX6_hangsBelow_1 : decode cX6_hangsBelow 1 = .ok (.iload_n 1, 1) := by decide +kernel
theorem dX6_hangsBelow_2 : decode cX6_hangsBelow 2 = .ok (.invokevirtual 48, 3) := by decide +kernel
theorem dX6_hangsBelow_5 : decode cX6_hangsBelow 5 = .ok (.istore_n 3, 1) := by decide +kernel
theorem dX6_hangsBelow_6 : decode cX6_hangsBelow 6 = .ok (.iconst 0, 1) := by decide +kernel
theorem dX6_hangsBelow_7 : decode cX6_hangsBelow 7 = .ok (.istore 4, 2) := by decide +kernel
theorem dX6_hangsBelow_9 : decode cX6_hangsBelow 9 = .ok (.iload 4, 2) := by decide +kernel
theorem dX6_hangsBelow_11 : decode cX6_hangsBelow 11 = .ok (.sipush 513, 3) := by decide +kernel
theorem dX6_hangsBelow_14 : decode cX6_hangsBelow 14 = .ok (.if_icmp .ge 20, 3) := by decide +kernel
theorem dX6_hangsBelow_17 : decode cX6_hangsBelow 17 = .ok (.iload_n 3, 1) := by decide +kernel
theorem dX6_hangsBelow_18 : decode cX6_hangsBelow 18 = .ok (.iload_n 2, 1) := by decide +kernel
theorem dX6_hangsBelow_19 : decode cX6_hangsBelow 19 = .ok (.if_icmp .le 15, 3) := by decide +kernel
theorem dX6_hangsBelow_22 : decode cX6_hangsBelow 22 = .ok (.aload_n 0, 1) := by decide +kernel
theorem dX6_hangsBelow_23 : decode cX6_hangsBelow 23 = .ok (.iload_n 3, 1) := by decide +kernel
theorem dX6_hangsBelow_24 : decode cX6_hangsBelow 24 = .ok (.invokevirtual 48, 3) := by decide +kernel
theorem dX6_hangsBelow_27 : decode cX6_hangsBelow 27 = .ok (.istore_n 3, 1) := by decide +kernel
theorem dX6_hangsBelow_28 : decode cX6_hangsBelow 28 = .ok (.iinc 4 1, 3) := by decide +kernel
theorem dX6_hangsBelow_31 : decode cX6_hangsBelow 31 = .ok (.goto (-22), 3) := by decide +kernel
theorem dX6_hangsBelow_34 : decode cX6_hangsBelow 34 = .ok (.iload_n 3, 1) := by decide +kernel
theorem dX6_hangsBelow_35 : decode cX6_hangsBelow 35 = .ok (.iload_n 2, 1) := by decide +kernel
theorem dX6_hangsBelow_36 : decode cX6_hangsBelow 36 = .ok (.if_icmp .ne 7, 3) := by decide +kernel
theorem dX6_hangsBelow_39 : decode cX6_hangsBelow 39 = .ok (.iconst 1, 1) := by decide +kernel
theorem dX6_hangsBelow_40 : decode cX6_hangsBelow 40 = .ok (.goto 4, 3) := by decide +kernel
theorem dX6_hangsBelow_43 : decode cX6_hangsBelow 43 = .ok (.iconst 0, 1) := by decide +kernel
theorem dX6_hangsBelow_44 : decode cX6_hangsBelow 44 = .ok (.ireturn, 1) := by decide +kernel
set_option maxRecDepth 20000 in
theorem ggX7_init_X5_init : GoodIn wsX7_init wsX5_init := goodIn_r _ [26, 27, 2, 3, 28, 29, 30, 31, 32, 33, 34, 85, 86, 87, 88, 89] (by decide +kernel) (by decide +kernel)
set_option maxRecDepth 20000 in
theorem gX7_init_X5_init_n9 : GoodIn wsX7_init (wsX5_init) := ggX7_init_X5_init
set_option maxRecDepth 20000 in
theorem ggX7_init_X3_init : GoodIn wsX7_init wsX3_init := goodIn_r _ [36, 37, 2, 3, 28, 38, 39, 40, 41, 96, 97, 98, 99] (by decide +kernel) (by decide +kernel)
set_option maxRecDepth 20000 in
theorem gX7_init_X3_init_n18 : GoodIn wsX7_init (wsX3_init) := ggX7_init_X3_init
set_option maxRecDepth 20000 in
theorem ggX7_init_X6_init : GoodIn wsX7_init wsX6_init := goodIn_r _ [44, 28, 45, 46, 47, 48, 49, 50, 51, 2, 3, 52, 53, 54, 31, 55, 56, 57, 58, 59, 60, 61, 62, 63, 64, 65, 14, 66, 67, 68, 69, 70, 71, 100, 101, 102, 103, 104, 105, 106, 107, 108, 109, 110, 111, 112, 113, 114, 115, 116] (by decide +kernel) (by decide +kernel)
set_option maxRecDepth 20000 in
theorem gX7_init_X6_init : GoodIn wsX7_init (wsX6_init) := ggX7_init_X6_init
set_option maxRecDepth 20000 in
theorem ggX7_init_X1_init : GoodIn wsX7_init wsX1_init := goodIn_r _ [73, 28, 74, 75, 48, 49, 50, 51, 2, 3, 52, 53, 54, 31, 55, 56, 57, 109, 110, 111, 112, 113, 114, 115, 116, 100, 101, 102, 103, 104, 105, 106, 107, 108] (by decide +kernel) (by decide +kernel)
set_option maxRecDepth 20000 in
theorem gX7_init_X1_init_n32 : GoodIn wsX7_init (wsX1_init) := ggX7_init_X1_init
set_option maxRecDepth 20000 in
theorem ggX7_init_X0_init : GoodIn wsX7_init wsX0_init := goodIn_r _ [77, 78, 2, 3, 28, 79, 80, 81, 82, 83, 84, 117, 118, 119, 120, 121] (by decide +kernel) (by decide +kernel)
set_option maxRecDepth 20000 in
theorem gX7_init_X0_init_n39 : GoodIn wsX7_init (wsX0_init) := ggX7_init_X0_init
theorem dX7_init_0 : decode cX7_init 0 = .ok (.aload_n 0, 1) := by decide +kernel
theorem dX7_init_1 : decode cX7_init 1 = .ok (.invokespecial 1, 3) := by decide +kernel
theorem dX7_init_4 : decode cX7_init 4 = .ok (.aload_n 0, 1) := by decide +kernel
theorem dX7_init_5 : decode cX7_init 5 = .ok (.new 7, 3) := by decide +kernel
theorem dX7_init_8 : decode cX7_init 8 = .ok (.dup, 1) := by decide +kernel
theorem dX7_init_9 : decode cX7_init 9 = .ok (.invokespecial 9, 3) := by decide +kernel
theorem dX7_init_12 : decode cX7_init 12 = .ok (.putfield 10, 3) := by decide +kernel
theorem dX7_init_15 : decode cX7_init 15 = .ok (.aload_n 0, 1) := by decide +kernel
theorem dX7_init_16 : decode cX7_init 16 = .ok (.new 16, 3) := by decide +kernel
theorem dX7_init_19 : decode cX7_init 19 = .ok (.dup, 1) := by decide +kernel
theorem dX7_init_20 : decode cX7_init 20 = .ok (.invokespecial 18, 3) := by decide +kernel
theorem dX7_init_23 : decode cX7_init 23 = .ok (.putfield 19, 3) := by decide +kernel
theorem dX7_init_26 : decode cX7_init 26 = .ok (.aload_n 0, 1) := by decide +kernel
theorem dX7_init_27 : decode cX7_init 27 = .ok (.new 23, 3) := by decide +kernel
theorem dX7_init_30 : decode cX7_init 30 = .ok (.dup, 1) := by decide +kernel
theorem dX7_init_31 : decode cX7_init 31 = .ok (.invokespecial 25, 3) := by decide +kernel
theorem dX7_init_34 : decode cX7_init 34 = .ok (.putfield 26, 3) := by decide +kernel
theorem dX7_init_37 : decode cX7_init 37 = .ok (.aload_n 0, 1) := by decide +kernel
theorem dX7_init_38 : decode cX7_init 38 = .ok (.new 30, 3) := by decide +kernel
theorem dX7_init_41 : decode cX7_init 41 = .ok (.dup, 1) := by decide +kernel
theorem dX7_init_42 : decode cX7_init 42 = .ok (.invokespecial 32, 3) := by decide +kernel
theorem dX7_init_45 : decode cX7_init 45 = .ok (.putfield 33, 3) := by decide +kernel
theorem dX7_init_48 : decode cX7_init 48 = .ok (.aload_n 0, 1) := by decide +kernel
theorem dX7_init_49 : decode cX7_init 49 = .ok (.new 37, 3) := by decide +kernel
theorem dX7_init_52 : decode cX7_init 52 = .ok (.dup, 1) := by decide +kernel
theorem dX7_init_53 : decode cX7_init 53 = .ok (.invokespecial 39, 3) := by decide +kernel
theorem dX7_init_56 : decode cX7_init 56 = .ok (.putfield 40, 3) := by decide +kernel
theorem dX7_init_59 : decode cX7_init 59 = .ok (.aload_n 0, 1) := by decide +kernel
theorem dX7_init_60 : decode cX7_init 60 = .ok (.iconst 0, 1) := by decide +kernel
theorem dX7_init_61 : decode cX7_init 61 = .ok (.putfield 44, 3) := by decide +kernel
theorem dX7_init_64 : decode cX7_init 64 = .ok (.return_, 1) := by decide +kernel
set_option maxRecDepth 20000 in
theorem ggX7_policy_X5_count : GoodIn wsX7_policy wsX5_count := goodIn_r _ [8, 9, 20, 21, 22, 23, 24] (by decide +kernel) (by decide +kernel)
set_option maxRecDepth 20000 in
theorem gX7_policy_X5_count : GoodIn wsX7_policy (wsV RX7 48 RX5 yX5_count wsX5_count) := goodIn_app (goodIn_of _ (by decide +kernel)) ggX7_policy_X5_count
set_option maxRecDepth 20000 in
theorem ggX7_policy_X5_add : GoodIn wsX7_policy wsX5_add := goodIn_r _ [13, 9, 20, 21, 22, 23, 24] (by decide +kernel) (by decide +kernel)
set_option maxRecDepth 20000 in
theorem gX7_policy_X5_add : GoodIn wsX7_policy (wsV RX7 59 RX5 yX5_add wsX5_add) := goodIn_app (goodIn_of _ (by decide +kernel)) ggX7_policy_X5_add
theorem dX7_policy_0 : decode cX7_policy 0 = .ok (.aload_n 0, 1) := by decide +kernel
theorem dX7_policy_1 : decode cX7_policy 1 = .ok (.getfield 10, 3) := by decide +kernel
theorem dX7_policy_4 : decode cX7_policy 4 = .ok (.invokevirtual 48, 3) := by decide +kernel
theorem dX7_policy_7 : decode cX7_policy 7 = .ok (.bipush 8, 2) := by decide +kernel
theorem dX7_policy_9 : decode cX7_policy 9 = .ok (.if_icmp .lt 13, 3) := by decide +kernel
theorem dX7_policy_12 : decode cX7_policy 12 = .ok (.new 52, 3) := by decide +kernel
theorem dX7_policy_15 : decode cX7_policy 15 = .ok (.dup, 1) := by decide +kernel
theorem dX7_policy_16 : decode cX7_policy 16 = .ok (.ldc 54, 2) := by decide +kernel
theorem dX7_policy_18 : decode cX7_policy 18 = .ok (.invokespecial 56, 3) := by decide +kernel
theorem dX7_policy_21 : decode cX7_policy 21 = .ok (.athrow, 1) := by decide +kernel
theorem dX7_policy_22 : decode cX7_policy 22 = .ok (.aload_n 0, 1) := by decide +kernel
theorem dX7_policy_23 : decode cX7_policy 23 = .ok (.getfield 10, 3) := by decide +kernel
theorem dX7_policy_26 : decode cX7_policy 26 = .ok (.invokevirtual 59, 3) := by decide +kernel
theorem dX7_policy_29 : decode cX7_policy 29 = .ok (.ireturn, 1) := by decide +kernel
set_option maxRecDepth 20000 in
theorem ggX7_allow_X7_checkPolicy : GoodIn wsX7_allow wsX7_checkPolicy := goodIn_ca (goodIn_r _ [10, 11, 12, 5, 13, 14, 15, 16, 17, 18, 53, 54, 55, 56, 57, 58, 59, 60, 61, 62, 63] (by decide +kernel) (by decide +kernel)) (goodIn_sub (fun _ h => List.mem_cons_of_mem _ (List.mem_append_right _ h)) (by decide +kernel))
set_option maxRecDepth 20000 in
theorem gX7_allow_X7_checkPolicy : GoodIn wsX7_allow (wsV RX7 62 RX7 yX7_checkPolicy wsX7_checkPolicy) := goodIn_app (goodIn_of _ (by decide +kernel)) ggX7_allow_X7_checkPolicy
set_option maxRecDepth 20000 in
theorem ggX7_allow_X4_isPattern : GoodIn wsX7_allow wsX4_isPattern := goodIn_r _ [22, 23, 24, 21, 25, 26] (by decide +kernel) (by decide +kernel)
set_option maxRecDepth 20000 in
theorem gX7_allow_X4_isPattern : GoodIn wsX7_allow (va_wsS RX7 66 yX4_isPattern wsX4_isPattern) := goodIn_app (goodIn_of _ (by decide +kernel)) ggX7_allow_X4_isPattern
set_option maxRecDepth 20000 in
theorem ggX7_allow_X7_checkRange : GoodIn wsX7_allow wsX7_checkRange := goodIn_ca (goodIn_r _ [29, 1, 2] (by decide +kernel) (by decide +kernel)) (goodIn_sub (fun _ h => List.mem_cons_of_mem _ (List.mem_append_left _ (List.mem_append_left _ (List.mem_append_right _ h)))) (by decide +kernel))
set_option maxRecDepth 20000 in
theorem gX7_allow_X7_checkRange : GoodIn wsX7_allow (va_wsS RX7 77 yX7_checkRange wsX7_checkRange) := goodIn_app (goodIn_of _ (by decide +kernel)) ggX7_allow_X7_checkRange
set_option maxRecDepth 20000 in
theorem ggX7_allow_X5_find : GoodIn wsX7_allow wsX5_find := goodIn_r _ [33, 34, 35, 36, 37, 38, 16, 39, 40, 41, 14, 15, 17, 18, 59, 60, 61, 62, 63] (by decide +kernel) (by decide +kernel)
set_option maxRecDepth 20000 in
theorem gX7_allow_X5_find : GoodIn wsX7_allow (wsV RX7 81 RX5 yX5_find wsX5_find) := goodIn_app (goodIn_of _ (by decide +kernel)) ggX7_allow_X5_find
set_option maxRecDepth 20000 in
theorem ggX7_allow_X5_rulesOf : GoodIn wsX7_allow wsX5_rulesOf := goodIn_r _ [39, 40, 41, 14, 15, 16, 17, 18, 59, 60, 61, 62, 63] (by decide +kernel) (by decide +kernel)
set_option maxRecDepth 20000 in
theorem gX7_allow_X5_rulesOf : GoodIn wsX7_allow (wsV RX7 85 RX5 yX5_rulesOf wsX5_rulesOf) := goodIn_app (goodIn_of _ (by decide +kernel)) ggX7_allow_X5_rulesOf
set_option maxRecDepth 20000 in
theorem ggX7_allow_X5_put : GoodIn wsX7_allow wsX5_put := goodIn_r _ [46, 34, 35, 47, 48, 31, 32, 16, 33, 36, 37, 38, 39, 40, 41, 14, 15, 17, 18, 49, 50, 51, 52, 59, 60, 61, 62, 63] (by decide +kernel) (by decide +kernel)
set_option maxRecDepth 20000 in
theorem gX7_allow_X5_put : GoodIn wsX7_allow (wsV RX7 91 RX5 yX5_put wsX5_put) := goodIn_app (goodIn_of _ (by decide +kernel)) ggX7_allow_X5_put
theorem dX7_allow_0 : decode cX7_allow 0 = .ok (.aload_n 0, 1) := by decide +kernel
theorem dX7_allow_1 : decode cX7_allow 1 = .ok (.iload_n 1, 1) := by decide +kernel
theorem dX7_allow_2 : decode cX7_allow 2 = .ok (.invokevirtual 62, 3) := by decide +kernel
theorem dX7_allow_5 : decode cX7_allow 5 = .ok (.iload_n 2, 1) := by decide +kernel
theorem dX7_allow_6 : decode cX7_allow 6 = .ok (.invokestatic 66, 3) := by decide +kernel
theorem dX7_allow_9 : decode cX7_allow 9 = .ok (.ifCond .ne 13, 3) := by decide +kernel
theorem dX7_allow_12 : decode cX7_allow 12 = .ok (.new 72, 3) := by decide +kernel
theorem dX7_allow_15 : decode cX7_allow 15 = .ok (.dup, 1) := by decide +kernel
theorem dX7_allow_16 : decode cX7_allow 16 = .ok (.ldc 74, 2) := by decide +kernel
theorem dX7_allow_18 : decode cX7_allow 18 = .ok (.invokespecial 76, 3) := by decide +kernel
theorem dX7_allow_21 : decode cX7_allow 21 = .ok (.athrow, 1) := by decide +kernel
theorem dX7_allow_22 : decode cX7_allow 22 = .ok (.iload 4, 2) := by decide +kernel
theorem dX7_allow_24 : decode cX7_allow 24 = .ok (.iconst 0, 1) := by decide +kernel
theorem dX7_allow_25 : decode cX7_allow 25 = .ok (.bipush 15, 2) := by decide +kernel
theorem dX7_allow_27 : decode cX7_allow 27 = .ok (.invokestatic 77, 3) := by decide +kernel
theorem dX7_allow_30 : decode cX7_allow 30 = .ok (.aload_n 0, 1) := by decide +kernel
theorem dX7_allow_31 : decode cX7_allow 31 = .ok (.getfield 10, 3) := by decide +kernel
theorem dX7_allow_34 : decode cX7_allow 34 = .ok (.iload_n 1, 1) := by decide +kernel
theorem dX7_allow_35 : decode cX7_allow 35 = .ok (.iload_n 2, 1) := by decide +kernel
theorem dX7_allow_36 : decode cX7_allow 36 = .ok (.iload_n 3, 1) := by decide +kernel
theorem dX7_allow_37 : decode cX7_allow 37 = .ok (.invokevirtual 81, 3) := by decide +kernel
theorem dX7_allow_40 : decode cX7_allow 40 = .ok (.istore 5, 2) := by decide +kernel
theorem dX7_allow_42 : decode cX7_allow 42 = .ok (.iload 5, 2) := by decide +kernel
theorem dX7_allow_44 : decode cX7_allow 44 = .ok (.iconst (-1), 1) := by decide +kernel
theorem dX7_allow_45 : decode cX7_allow 45 = .ok (.if_icmp .ne 26, 3) := by decide +kernel
theorem dX7_allow_48 : decode cX7_allow 48 = .ok (.aload_n 0, 1) := by decide +kernel
theorem dX7_allow_49 : decode cX7_allow 49 = .ok (.getfield 10, 3) := by decide +kernel
theorem dX7_allow_52 : decode cX7_allow 52 = .ok (.iload_n 1, 1) := by decide +kernel
theorem dX7_allow_53 : decode cX7_allow 53 = .ok (.invokevirtual 85, 3) := by decide +kernel
theorem dX7_allow_56 : decode cX7_allow 56 = .ok (.bipush 6, 2) := by decide +kernel
theorem dX7_allow_58 : decode cX7_allow 58 = .ok (.if_icmp .lt 13, 3) := by decide +kernel
theorem dX7_allow_61 : decode cX7_allow 61 = .ok (.new 52, 3) := by decide +kernel
theorem dX7_allow_64 : decode cX7_allow 64 = .ok (.dup, 1) := by decide +kernel
theorem dX7_allow_65 : decode cX7_allow 65 = .ok (.ldc 89, 2) := by decide +kernel
theorem dX7_allow_67 : decode cX7_allow 67 = .ok (.invokespecial 56, 3) := by decide +kernel
theorem dX7_allow_70 : decode cX7_allow 70 = .ok (.athrow, 1) := by decide +kernel
theorem dX7_allow_71 : decode cX7_allow 71 = .ok (.aload_n 0, 1) := by decide +kernel
theorem dX7_allow_72 : decode cX7_allow 72 = .ok (.getfield 10, 3) := by decide +kernel
theorem dX7_allow_75 : decode cX7_allow 75 = .ok (.iload_n 1, 1) := by decide +kernel
theorem dX7_allow_76 : decode cX7_allow 76 = .ok (.iload_n 2, 1) := by decide +kernel
theorem dX7_allow_77 : decode cX7_allow 77 = .ok (.iload_n 3, 1) := by decide +kernel
theorem dX7_allow_78 : decode cX7_allow 78 = .ok (.iload 4, 2) := by decide +kernel
theorem dX7_allow_80 : decode cX7_allow 80 = .ok (.invokevirtual 91, 3) := by decide +kernel
theorem dX7_allow_83 : decode cX7_allow 83 = .ok (.aload_n 0, 1) := by decide +kernel
theorem dX7_allow_84 : decode cX7_allow 84 = .ok (.getfield 10, 3) := by decide +kernel
theorem dX7_allow_87 : decode cX7_allow 87 = .ok (.iload_n 1, 1) := by decide +kernel
theorem dX7_allow_88 : decode cX7_allow 88 = .ok (.invokevirtual 85, 3) := by decide +kernel
theorem dX7_allow_91 : decode cX7_allow 91 = .ok (.ireturn, 1) := by decide +kernel
set_option maxRecDepth 20000 in
theorem ggX7_mount_X7_checkPath : GoodIn wsX7_mount wsX7_checkPath := goodIn_ca (goodIn_r _ [7, 8, 9, 10, 11, 12, 13, 14, 15, 16, 17] (by decide +kernel) (by decide +kernel)) (goodIn_sub (fun _ h => List.mem_cons_of_mem _ (List.mem_append_right _ h)) (by decide +kernel))
set_option maxRecDepth 20000 in
theorem gX7_mount_X7_checkPath : GoodIn wsX7_mount (va_wsS RX7 98 yX7_checkPath wsX7_checkPath) := goodIn_app (goodIn_of _ (by decide +kernel)) ggX7_mount_X7_checkPath
set_option maxRecDepth 20000 in
theorem ggX7_mount_X7_checkLease : GoodIn wsX7_mount wsX7_checkLease := goodIn_ca (goodIn_r _ [20, 21, 22, 6, 23, 8, 9] (by decide +kernel) (by decide +kernel)) (goodIn_sub (fun _ h => List.mem_cons_of_mem _ (List.mem_append_right _ h)) (by decide +kernel))
set_option maxRecDepth 20000 in
theorem gX7_mount_X7_checkLease : GoodIn wsX7_mount (va_wsS RX7 101 yX7_checkLease wsX7_checkLease) := goodIn_app (goodIn_of _ (by decide +kernel)) ggX7_mount_X7_checkLease
set_option maxRecDepth 20000 in
theorem ggX7_mount_X3_find : GoodIn wsX7_mount wsX3_find := goodIn_r _ [28, 29, 30, 48, 49, 50, 51] (by decide +kernel) (by decide +kernel)
set_option maxRecDepth 20000 in
theorem gX7_mount_X3_find : GoodIn wsX7_mount (wsV RX7 105 RX3 yX3_find wsX3_find) := goodIn_app (goodIn_of _ (by decide +kernel)) ggX7_mount_X3_find
set_option maxRecDepth 20000 in
theorem ggX7_mount_X3_count : GoodIn wsX7_mount wsX3_count := goodIn_r _ [34, 29, 48, 49, 50, 51] (by decide +kernel) (by decide +kernel)
set_option maxRecDepth 20000 in
theorem gX7_mount_X3_count : GoodIn wsX7_mount (wsV RX7 107 RX3 yX3_count wsX3_count) := goodIn_app (goodIn_of _ (by decide +kernel)) ggX7_mount_X3_count
set_option maxRecDepth 20000 in
theorem ggX7_mount_X3_put : GoodIn wsX7_mount wsX3_put := goodIn_r _ [38, 29, 30, 39, 40, 41, 25, 26, 27, 28, 48, 49, 50, 51] (by decide +kernel) (by decide +kernel)
set_option maxRecDepth 20000 in
theorem gX7_mount_X3_put : GoodIn wsX7_mount (wsV RX7 110 RX3 yX3_put wsX3_put) := goodIn_app (goodIn_of _ (by decide +kernel)) ggX7_mount_X3_put
theorem dX7_mount_0 : decode cX7_mount 0 = .ok (.iload_n 1, 1) := by decide +kernel
theorem dX7_mount_1 : decode cX7_mount 1 = .ok (.invokestatic 98, 3) := by decide +kernel
theorem dX7_mount_4 : decode cX7_mount 4 = .ok (.iload_n 2, 1) := by decide +kernel
theorem dX7_mount_5 : decode cX7_mount 5 = .ok (.iload_n 3, 1) := by decide +kernel
theorem dX7_mount_6 : decode cX7_mount 6 = .ok (.invokestatic 101, 3) := by decide +kernel
theorem dX7_mount_9 : decode cX7_mount 9 = .ok (.aload_n 0, 1) := by decide +kernel
theorem dX7_mount_10 : decode cX7_mount 10 = .ok (.getfield 19, 3) := by decide +kernel
theorem dX7_mount_13 : decode cX7_mount 13 = .ok (.iload_n 1, 1) := by decide +kernel
theorem dX7_mount_14 : decode cX7_mount 14 = .ok (.invokevirtual 105, 3) := by decide +kernel
theorem dX7_mount_17 : decode cX7_mount 17 = .ok (.iconst (-1), 1) := by decide +kernel
theorem dX7_mount_18 : decode cX7_mount 18 = .ok (.if_icmp .ne 25, 3) := by decide +kernel
theorem dX7_mount_21 : decode cX7_mount 21 = .ok (.aload_n 0, 1) := by decide +kernel
theorem dX7_mount_22 : decode cX7_mount 22 = .ok (.getfield 19, 3) := by decide +kernel
theorem dX7_mount_25 : decode cX7_mount 25 = .ok (.invokevirtual 107, 3) := by decide +kernel
theorem dX7_mount_28 : decode cX7_mount 28 = .ok (.bipush 6, 2) := by decide +kernel
theorem dX7_mount_30 : decode cX7_mount 30 = .ok (.if_icmp .lt 13, 3) := by decide +kernel
theorem dX7_mount_33 : decode cX7_mount 33 = .ok (.new 52, 3) := by decide +kernel
theorem dX7_mount_36 : decode cX7_mount 36 = .ok (.dup, 1) := by decide +kernel
theorem dX7_mount_37 : decode cX7_mount 37 = .ok (.ldc 108, 2) := by decide +kernel
theorem dX7_mount_39 : decode cX7_mount 39 = .ok (.invokespecial 56, 3) := by decide +kernel
theorem dX7_mount_42 : decode cX7_mount 42 = .ok (.athrow, 1) := by decide +kernel
theorem dX7_mount_43 : decode cX7_mount 43 = .ok (.aload_n 0, 1) := by decide +kernel
theorem dX7_mount_44 : decode cX7_mount 44 = .ok (.getfield 19, 3) := by decide +kernel
theorem dX7_mount_47 : decode cX7_mount 47 = .ok (.iload_n 1, 1) := by decide +kernel
theorem dX7_mount_48 : decode cX7_mount 48 = .ok (.iload_n 2, 1) := by decide +kernel
theorem dX7_mount_49 : decode cX7_mount 49 = .ok (.iload_n 3, 1) := by decide +kernel
theorem dX7_mount_50 : decode cX7_mount 50 = .ok (.invokevirtual 110, 3) := by decide +kernel
theorem dX7_mount_53 : decode cX7_mount 53 = .ok (.aload_n 0, 1) := by decide +kernel
theorem dX7_mount_54 : decode cX7_mount 54 = .ok (.getfield 19, 3) := by decide +kernel
theorem dX7_mount_57 : decode cX7_mount 57 = .ok (.invokevirtual 107, 3) := by decide +kernel
theorem dX7_mount_60 : decode cX7_mount 60 = .ok (.ireturn, 1) := by decide +kernel
set_option maxRecDepth 20000 in
theorem ggX7_create_X7_checkToken : GoodIn wsX7_create wsX7_checkToken := goodIn_ca (goodIn_r _ [12, 13, 14, 5, 15, 16, 17, 18, 19, 20, 21, 101, 102, 103, 104, 105, 106, 107, 108, 109, 110, 111, 112, 113, 114, 115, 116, 117, 118, 119, 120, 121, 122, 123] (by decide +kernel) (by decide +kernel)) (goodIn_sub (fun _ h => List.mem_cons_of_mem _ (List.mem_append_right _ h)) (by decide +kernel))
set_option maxRecDepth 20000 in
theorem gX7_create_X7_checkToken : GoodIn wsX7_create (wsV RX7 112 RX7 yX7_checkToken wsX7_checkToken) := goodIn_app (goodIn_of _ (by decide +kernel)) ggX7_create_X7_checkToken
set_option maxRecDepth 20000 in
theorem ggX7_create_X7_mayHand : GoodIn wsX7_create wsX7_mayHand := goodIn_r _ [25, 26, 5, 27, 28, 29, 30, 31, 32, 33, 34, 35, 36, 37, 38, 39, 16, 17, 18, 19, 20, 21, 101, 102, 103, 104, 105, 106, 124, 125, 126, 127, 128, 115, 116, 117, 118, 119, 120, 121, 122, 123, 107, 108, 109, 110, 111, 112, 113, 114] (by decide +kernel) (by decide +kernel)
set_option maxRecDepth 20000 in
theorem gX7_create_X7_mayHand : GoodIn wsX7_create (wsV RX7 115 RX7 yX7_mayHand wsX7_mayHand) := goodIn_app (goodIn_of _ (by decide +kernel)) ggX7_create_X7_mayHand
set_option maxRecDepth 20000 in
theorem ggX7_create_X7_checkLease : GoodIn wsX7_create wsX7_checkLease := goodIn_ca (goodIn_r _ [42, 43, 44, 11, 45, 1, 2] (by decide +kernel) (by decide +kernel)) (goodIn_sub (fun _ h => List.mem_cons_of_mem _ (List.mem_append_left _ (List.mem_append_left _ (List.mem_append_right _ h)))) (by decide +kernel))
set_option maxRecDepth 20000 in
theorem gX7_create_X7_checkLease : GoodIn wsX7_create (va_wsS RX7 101 yX7_checkLease wsX7_checkLease) := goodIn_app (goodIn_of _ (by decide +kernel)) ggX7_create_X7_checkLease
set_option maxRecDepth 20000 in
theorem ggX7_create_X7_checkRange : GoodIn wsX7_create wsX7_checkRange := goodIn_ca (goodIn_r _ [45, 1, 2] (by decide +kernel) (by decide +kernel)) (goodIn_sub (fun _ h => List.mem_cons_of_mem _ (List.mem_append_left _ (List.mem_append_left _ (List.mem_append_right _ h)))) (by decide +kernel))
set_option maxRecDepth 20000 in
theorem gX7_create_X7_checkRange : GoodIn wsX7_create (va_wsS RX7 77 yX7_checkRange wsX7_checkRange) := goodIn_app (goodIn_of _ (by decide +kernel)) ggX7_create_X7_checkRange
set_option maxRecDepth 20000 in
theorem ggX7_create_X7_checkAliveToken : GoodIn wsX7_create wsX7_checkAliveToken := goodIn_ca (goodIn_r _ [49, 3, 4, 5, 50, 51, 52, 53, 19, 54, 55, 56, 57, 58, 18, 20, 21, 59, 101, 102, 103, 104, 105, 106, 107, 108, 109, 110, 111, 112, 113, 114, 115, 116, 117, 118, 119, 120, 121, 122, 123] (by decide +kernel) (by decide +kernel)) (goodIn_sub (fun _ h => List.mem_cons_of_mem _ (List.mem_append_left _ (List.mem_append_right _ h))) (by decide +kernel))
set_option maxRecDepth 20000 in
theorem gX7_create_X7_checkAliveToken : GoodIn wsX7_create (wsV RX7 121 RX7 yX7_checkAliveToken wsX7_checkAliveToken) := goodIn_app (goodIn_of _ (by decide +kernel)) ggX7_create_X7_checkAliveToken
set_option maxRecDepth 20000 in
theorem ggX7_create_X2_living : GoodIn wsX7_create wsX2_living := goodIn_r _ [64, 65, 107, 108, 109, 110, 111, 112, 113, 114, 115, 116, 117, 118, 119, 120, 121, 122, 123] (by decide +kernel) (by decide +kernel)
set_option maxRecDepth 20000 in
theorem gX7_create_X2_living_u124X6 : GoodIn wsX7_create (va_wsU RX7 124 RX6 "SecretBroker$Leased" ⟨"SecretBroker$Tokens", "living", "()I"⟩ yX2_living wsX2_living) := goodIn_app (goodIn_of _ (by decide +kernel)) ggX7_create_X2_living
set_option maxRecDepth 20000 in
theorem ggX7_create_X2_isFull : GoodIn wsX7_create wsX2_isFull := goodIn_r _ [70, 21, 107, 108, 109, 110, 111, 112, 113, 114, 115, 116, 117, 118, 119, 120, 121, 122, 123] (by decide +kernel) (by decide +kernel)
set_option maxRecDepth 20000 in
theorem gX7_create_X2_isFull_u127X6 : GoodIn wsX7_create (va_wsU RX7 127 RX6 "SecretBroker$Leased" ⟨"SecretBroker$Tokens", "isFull", "()Z"⟩ yX2_isFull wsX2_isFull) := goodIn_app (goodIn_of _ (by decide +kernel)) ggX7_create_X2_isFull
set_option maxRecDepth 20000 in
theorem ggX7_create_X2_add : GoodIn wsX7_create wsX2_add := goodIn_r _ [75, 21, 76, 77, 78, 55, 65, 107, 108, 109, 110, 111, 112, 113, 114, 115, 116, 117, 118, 119, 120, 121, 122, 123] (by decide +kernel) (by decide +kernel)
set_option maxRecDepth 20000 in
theorem gX7_create_X2_add_u133X6 : GoodIn wsX7_create (va_wsU RX7 133 RX6 "SecretBroker$Leased" ⟨"SecretBroker$Tokens", "add", "(III)I"⟩ yX2_add wsX2_add) := goodIn_app (goodIn_of _ (by decide +kernel)) ggX7_create_X2_add
set_option maxRecDepth 20000 in
theorem ggX7_create_X6_describe : GoodIn wsX7_create wsX6_describe := goodIn_r _ [82, 83, 38, 84, 39, 16, 17, 18, 19, 20, 21, 115, 116, 117, 118, 119, 120, 121, 122, 123, 107, 108, 109, 110, 111, 112, 113, 114] (by decide +kernel) (by decide +kernel)
set_option maxRecDepth 20000 in
theorem gX7_create_X6_describe : GoodIn wsX7_create (wsV RX7 136 RX6 yX6_describe wsX6_describe) := goodIn_app (goodIn_of _ (by decide +kernel)) ggX7_create_X6_describe
set_option maxRecDepth 20000 in
theorem ggX7_create_X0_write : GoodIn wsX7_create wsX0_write := goodIn_r _ [89, 90, 91, 92, 93, 94, 95, 96, 97, 98, 99, 100, 129, 130, 131, 132, 133] (by decide +kernel) (by decide +kernel)
set_option maxRecDepth 20000 in
theorem gX7_create_X0_write : GoodIn wsX7_create (wsV RX7 140 RX0 yX0_write wsX0_write) := goodIn_app (goodIn_of _ (by decide +kernel)) ggX7_create_X0_write
theorem dX7_create_0 : decode cX7_create 0 = .ok (.aload_n 0, 1) := by decide +kernel
theorem dX7_create_1 : decode cX7_create 1 = .ok (.iload_n 1, 1) := by decide +kernel
theorem dX7_create_2 : decode cX7_create 2 = .ok (.invokevirtual 112, 3) := by decide +kernel
theorem dX7_create_5 : decode cX7_create 5 = .ok (.aload_n 0, 1) := by decide +kernel
theorem dX7_create_6 : decode cX7_create 6 = .ok (.iload_n 1, 1) := by decide +kernel
theorem dX7_create_7 : decode cX7_create 7 = .ok (.iload_n 2, 1) := by decide +kernel
theorem dX7_create_8 : decode cX7_create 8 = .ok (.invokevirtual 115, 3) := by decide +kernel
theorem dX7_create_11 : decode cX7_create 11 = .ok (.ifCond .ne 13, 3) := by decide +kernel
theorem dX7_create_14 : decode cX7_create 14 = .ok (.new 72, 3) := by decide +kernel
theorem dX7_create_17 : decode cX7_create 17 = .ok (.dup, 1) := by decide +kernel
theorem dX7_create_18 : decode cX7_create 18 = .ok (.ldc 119, 2) := by decide +kernel
theorem dX7_create_20 : decode cX7_create 20 = .ok (.invokespecial 76, 3) := by decide +kernel
theorem dX7_create_23 : decode cX7_create 23 = .ok (.athrow, 1) := by decide +kernel
theorem dX7_create_24 : decode cX7_create 24 = .ok (.iload_n 3, 1) := by decide +kernel
theorem dX7_create_25 : decode cX7_create 25 = .ok (.iload 4, 2) := by decide +kernel
theorem dX7_create_27 : decode cX7_create 27 = .ok (.invokestatic 101, 3) := by decide +kernel
theorem dX7_create_30 : decode cX7_create 30 = .ok (.iload 5, 2) := by decide +kernel
theorem dX7_create_32 : decode cX7_create 32 = .ok (.iconst 0, 1) := by decide +kernel
theorem dX7_create_33 : decode cX7_create 33 = .ok (.bipush 100, 2) := by decide +kernel
theorem dX7_create_35 : decode cX7_create 35 = .ok (.invokestatic 77, 3) := by decide +kernel
theorem dX7_create_38 : decode cX7_create 38 = .ok (.aload_n 0, 1) := by decide +kernel
theorem dX7_create_39 : decode cX7_create 39 = .ok (.iload_n 1, 1) := by decide +kernel
theorem dX7_create_40 : decode cX7_create 40 = .ok (.invokevirtual 121, 3) := by decide +kernel
theorem dX7_create_43 : decode cX7_create 43 = .ok (.aload_n 0, 1) := by decide +kernel
theorem dX7_create_44 : decode cX7_create 44 = .ok (.getfield 26, 3) := by decide +kernel
theorem dX7_create_47 : decode cX7_create 47 = .ok (.invokevirtual 124, 3) := by decide +kernel
theorem dX7_create_50 : decode cX7_create 50 = .ok (.bipush 30, 2) := by decide +kernel
theorem dX7_create_52 : decode cX7_create 52 = .ok (.if_icmp .ge 13, 3) := by decide +kernel
theorem dX7_create_55 : decode cX7_create 55 = .ok (.aload_n 0, 1) := by decide +kernel
theorem dX7_create_56 : decode cX7_create 56 = .ok (.getfield 26, 3) := by decide +kernel
theorem dX7_create_59 : decode cX7_create 59 = .ok (.invokevirtual 127, 3) := by decide +kernel
theorem dX7_create_62 : decode cX7_create 62 = .ok (.ifCond .eq 13, 3) := by decide +kernel
theorem dX7_create_65 : decode cX7_create 65 = .ok (.new 52, 3) := by decide +kernel
theorem dX7_create_68 : decode cX7_create 68 = .ok (.dup, 1) := by decide +kernel
theorem dX7_create_69 : decode cX7_create 69 = .ok (.ldc 131, 2) := by decide +kernel
theorem dX7_create_71 : decode cX7_create 71 = .ok (.invokespecial 56, 3) := by decide +kernel
theorem dX7_create_74 : decode cX7_create 74 = .ok (.athrow, 1) := by decide +kernel
theorem dX7_create_75 : decode cX7_create 75 = .ok (.aload_n 0, 1) := by decide +kernel
theorem dX7_create_76 : decode cX7_create 76 = .ok (.getfield 26, 3) := by decide +kernel
theorem dX7_create_79 : decode cX7_create 79 = .ok (.aload_n 0, 1) := by decide +kernel
theorem dX7_create_80 : decode cX7_create 80 = .ok (.getfield 44, 3) := by decide +kernel
theorem dX7_create_83 : decode cX7_create 83 = .ok (.aload_n 0, 1) := by decide +kernel
theorem dX7_create_84 : decode cX7_create 84 = .ok (.getfield 44, 3) := by decide +kernel
theorem dX7_create_87 : decode cX7_create 87 = .ok (.iload_n 3, 1) := by decide +kernel
theorem dX7_create_88 : decode cX7_create 88 = .ok (.iadd, 1) := by decide +kernel
theorem dX7_create_89 : decode cX7_create 89 = .ok (.iload 4, 2) := by decide +kernel
theorem dX7_create_91 : decode cX7_create 91 = .ok (.invokevirtual 133, 3) := by decide +kernel
theorem dX7_create_94 : decode cX7_create 94 = .ok (.istore 6, 2) := by decide +kernel
theorem dX7_create_96 : decode cX7_create 96 = .ok (.aload_n 0, 1) := by decide +kernel
theorem dX7_create_97 : decode cX7_create 97 = .ok (.getfield 26, 3) := by decide +kernel
theorem dX7_create_100 : decode cX7_create 100 = .ok (.iload 6, 2) := by decide +kernel
theorem dX7_create_102 : decode cX7_create 102 = .ok (.iload_n 1, 1) := by decide +kernel
theorem dX7_create_103 : decode cX7_create 103 = .ok (.iload_n 2, 1) := by decide +kernel
theorem dX7_create_104 : decode cX7_create 104 = .ok (.iload 5, 2) := by decide +kernel
theorem dX7_create_106 : decode cX7_create 106 = .ok (.ifCond .ne 7, 3) := by decide +kernel
theorem dX7_create_109 : decode cX7_create 109 = .ok (.iconst (-1), 1) := by decide +kernel
theorem dX7_create_110 : decode cX7_create 110 = .ok (.goto 5, 3) := by decide +kernel
theorem dX7_create_113 : decode cX7_create 113 = .ok (.iload 5, 2) := by decide +kernel
theorem dX7_create_115 : decode cX7_create 115 = .ok (.invokevirtual 136, 3) := by decide +kernel
theorem dX7_create_118 : decode cX7_create 118 = .ok (.aload_n 0, 1) := by decide +kernel
theorem dX7_create_119 : decode cX7_create 119 = .ok (.getfield 40, 3) := by decide +kernel
theorem dX7_create_122 : decode cX7_create 122 = .ok (.iconst 0, 1) := by decide +kernel
theorem dX7_create_123 : decode cX7_create 123 = .ok (.iload_n 1, 1) := by decide +kernel
theorem dX7_create_124 : decode cX7_create 124 = .ok (.iload 6, 2) := by decide +kernel
theorem dX7_create_126 : decode cX7_create 126 = .ok (.aload_n 0, 1) := by decide +kernel
theorem dX7_create_127 : decode cX7_create 127 = .ok (.getfield 44, 3) := by decide +kernel
theorem dX7_create_130 : decode cX7_create 130 = .ok (.invokevirtual 140, 3) := by decide +kernel
theorem dX7_create_133 : decode cX7_create 133 = .ok (.iload 6, 2) := by decide +kernel
theorem dX7_create_135 : decode cX7_create 135 = .ok (.ireturn, 1) := by decide +kernel
set_option maxRecDepth 20000 in
theorem ggX7_renew_X7_checkToken : GoodIn wsX7_renew wsX7_checkToken := goodIn_ca (goodIn_r _ [8, 9, 10, 1, 11, 12, 13, 14, 15, 16, 17, 79, 80, 81, 82, 83, 84, 85, 86, 87, 88, 89, 90, 91, 92, 93, 94, 95, 96, 97, 98, 99, 100, 101] (by decide +kernel) (by decide +kernel)) (goodIn_sub (fun _ h => List.mem_cons_of_mem _ (List.mem_append_left _ (List.mem_append_left _ (List.mem_append_right _ h)))) (by decide +kernel))
set_option maxRecDepth 20000 in
theorem gX7_renew_X7_checkToken : GoodIn wsX7_renew (wsV RX7 112 RX7 yX7_checkToken wsX7_checkToken) := goodIn_app (goodIn_of _ (by decide +kernel)) ggX7_renew_X7_checkToken
set_option maxRecDepth 20000 in
theorem ggX7_renew_X7_checkRange : GoodIn wsX7_renew wsX7_checkRange := goodIn_ca (goodIn_r _ [20, 21, 22] (by decide +kernel) (by decide +kernel)) (goodIn_sub (fun _ h => List.mem_cons_of_mem _ (List.mem_append_left _ (List.mem_append_right _ h))) (by decide +kernel))
set_option maxRecDepth 20000 in
theorem gX7_renew_X7_checkRange : GoodIn wsX7_renew (va_wsS RX7 77 yX7_checkRange wsX7_checkRange) := goodIn_app (goodIn_of _ (by decide +kernel)) ggX7_renew_X7_checkRange
set_option maxRecDepth 20000 in
theorem ggX7_renew_X7_checkEndingToken : GoodIn wsX7_renew wsX7_checkEndingToken := goodIn_ca (goodIn_r _ [26, 27, 28, 29, 30, 31, 7, 32, 1, 33, 34, 35, 36, 15, 37, 38, 39, 40, 41, 14, 16, 17, 42, 79, 80, 81, 82, 83, 84, 85, 86, 87, 88, 89, 90, 91, 92, 93, 94, 95, 96, 97, 98, 99, 100, 101] (by decide +kernel) (by decide +kernel)) (goodIn_sub (fun _ h => List.mem_cons_of_mem _ (List.mem_append_right _ h)) (by decide +kernel))
set_option maxRecDepth 20000 in
theorem gX7_renew_X7_checkEndingToken : GoodIn wsX7_renew (wsV RX7 143 RX7 yX7_checkEndingToken wsX7_checkEndingToken) := goodIn_app (goodIn_of _ (by decide +kernel)) ggX7_renew_X7_checkEndingToken
set_option maxRecDepth 20000 in
theorem ggX7_renew_X2_prolong : GoodIn wsX7_renew wsX2_prolong := goodIn_r _ [47, 48, 49, 50, 51, 52, 53, 54, 55, 56, 57, 39, 40, 41, 14, 15, 16, 17, 42, 85, 86, 87, 88, 89, 90, 91, 92, 93, 94, 95, 96, 97, 98, 99, 100, 101] (by decide +kernel) (by decide +kernel)
set_option maxRecDepth 20000 in
theorem gX7_renew_X2_prolong_u146X6 : GoodIn wsX7_renew (va_wsU RX7 146 RX6 "SecretBroker$Leased" ⟨"SecretBroker$Tokens", "prolong", "(III)V"⟩ yX2_prolong wsX2_prolong) := goodIn_app (goodIn_of _ (by decide +kernel)) ggX7_renew_X2_prolong
set_option maxRecDepth 20000 in
theorem ggX7_renew_X2_endAt : GoodIn wsX7_renew wsX2_endAt := goodIn_r _ [62, 50, 39, 40, 41, 14, 15, 16, 17, 42, 85, 86, 87, 88, 89, 90, 91, 92, 93, 94, 95, 96, 97, 98, 99, 100, 101] (by decide +kernel) (by decide +kernel)
set_option maxRecDepth 20000 in
theorem gX7_renew_X2_endAt_u149X6 : GoodIn wsX7_renew (va_wsU RX7 149 RX6 "SecretBroker$Leased" ⟨"SecretBroker$Tokens", "endAt", "(I)I"⟩ yX2_endAt wsX2_endAt) := goodIn_app (goodIn_of _ (by decide +kernel)) ggX7_renew_X2_endAt
set_option maxRecDepth 20000 in
theorem ggX7_renew_X0_write : GoodIn wsX7_renew wsX0_write := goodIn_r _ [67, 68, 69, 70, 71, 72, 73, 74, 75, 76, 77, 78, 102, 103, 104, 105, 106] (by decide +kernel) (by decide +kernel)
set_option maxRecDepth 20000 in
theorem gX7_renew_X0_write : GoodIn wsX7_renew (wsV RX7 140 RX0 yX0_write wsX0_write) := goodIn_app (goodIn_of _ (by decide +kernel)) ggX7_renew_X0_write
theorem dX7_renew_0 : decode cX7_renew 0 = .ok (.aload_n 0, 1) := by decide +kernel
theorem dX7_renew_1 : decode cX7_renew 1 = .ok (.iload_n 1, 1) := by decide +kernel
theorem dX7_renew_2 : decode cX7_renew 2 = .ok (.invokevirtual 112, 3) := by decide +kernel
theorem dX7_renew_5 : decode cX7_renew 5 = .ok (.iload_n 2, 1) := by decide +kernel
theorem dX7_renew_6 : decode cX7_renew 6 = .ok (.iconst 1, 1) := by decide +kernel
theorem dX7_renew_7 : decode cX7_renew 7 = .ok (.sipush 1000, 3) := by decide +kernel
theorem dX7_renew_10 : decode cX7_renew 10 = .ok (.invokestatic 77, 3) := by decide +kernel
theorem dX7_renew_13 : decode cX7_renew 13 = .ok (.aload_n 0, 1) := by decide +kernel
theorem dX7_renew_14 : decode cX7_renew 14 = .ok (.iload_n 1, 1) := by decide +kernel
theorem dX7_renew_15 : decode cX7_renew 15 = .ok (.invokevirtual 143, 3) := by decide +kernel
theorem dX7_renew_18 : decode cX7_renew 18 = .ok (.aload_n 0, 1) := by decide +kernel
theorem dX7_renew_19 : decode cX7_renew 19 = .ok (.getfield 26, 3) := by decide +kernel
theorem dX7_renew_22 : decode cX7_renew 22 = .ok (.iload_n 1, 1) := by decide +kernel
theorem dX7_renew_23 : decode cX7_renew 23 = .ok (.aload_n 0, 1) := by decide +kernel
theorem dX7_renew_24 : decode cX7_renew 24 = .ok (.getfield 44, 3) := by decide +kernel
theorem dX7_renew_27 : decode cX7_renew 27 = .ok (.iload_n 2, 1) := by decide +kernel
theorem dX7_renew_28 : decode cX7_renew 28 = .ok (.invokevirtual 146, 3) := by decide +kernel
theorem dX7_renew_31 : decode cX7_renew 31 = .ok (.aload_n 0, 1) := by decide +kernel
theorem dX7_renew_32 : decode cX7_renew 32 = .ok (.getfield 26, 3) := by decide +kernel
theorem dX7_renew_35 : decode cX7_renew 35 = .ok (.iload_n 1, 1) := by decide +kernel
theorem dX7_renew_36 : decode cX7_renew 36 = .ok (.invokevirtual 149, 3) := by decide +kernel
theorem dX7_renew_39 : decode cX7_renew 39 = .ok (.istore_n 3, 1) := by decide +kernel
theorem dX7_renew_40 : decode cX7_renew 40 = .ok (.aload_n 0, 1) := by decide +kernel
theorem dX7_renew_41 : decode cX7_renew 41 = .ok (.getfield 40, 3) := by decide +kernel
theorem dX7_renew_44 : decode cX7_renew 44 = .ok (.iconst 1, 1) := by decide +kernel
theorem dX7_renew_45 : decode cX7_renew 45 = .ok (.iload_n 1, 1) := by decide +kernel
theorem dX7_renew_46 : decode cX7_renew 46 = .ok (.iload_n 3, 1) := by decide +kernel
theorem dX7_renew_47 : decode cX7_renew 47 = .ok (.aload_n 0, 1) := by decide +kernel
theorem dX7_renew_48 : decode cX7_renew 48 = .ok (.getfield 44, 3) := by decide +kernel
theorem dX7_renew_51 : decode cX7_renew 51 = .ok (.invokevirtual 140, 3) := by decide +kernel
theorem dX7_renew_54 : decode cX7_renew 54 = .ok (.iload_n 3, 1) := by decide +kernel
theorem dX7_renew_55 : decode cX7_renew 55 = .ok (.ireturn, 1) := by decide +kernel
set_option maxRecDepth 20000 in
theorem ggX7_revoke_X7_checkToken : GoodIn wsX7_revoke wsX7_checkToken := goodIn_ca (goodIn_r _ [5, 6, 7, 8, 9, 10, 11, 12, 13, 14, 15, 99, 100, 101, 102, 103, 104, 105, 106, 107, 108, 109, 110, 111, 112, 113, 114, 115, 116, 117, 118, 119, 120, 121] (by decide +kernel) (by decide +kernel)) (goodIn_sub (fun _ h => List.mem_cons_of_mem _ (List.mem_append_left _ (List.mem_append_right _ h))) (by decide +kernel))
set_option maxRecDepth 20000 in
theorem gX7_revoke_X7_checkToken : GoodIn wsX7_revoke (wsV RX7 112 RX7 yX7_checkToken wsX7_checkToken) := goodIn_app (goodIn_of _ (by decide +kernel)) ggX7_revoke_X7_checkToken
set_option maxRecDepth 20000 in
theorem ggX7_revoke_X7_checkEndingToken : GoodIn wsX7_revoke wsX7_checkEndingToken := goodIn_ca (goodIn_r _ [19, 20, 21, 22, 23, 24, 4, 25, 8, 26, 27, 28, 29, 13, 30, 31, 32, 33, 34, 12, 14, 15, 35, 99, 100, 101, 102, 103, 104, 105, 106, 107, 108, 109, 110, 111, 112, 113, 114, 115, 116, 117, 118, 119, 120, 121] (by decide +kernel) (by decide +kernel)) (goodIn_sub (fun _ h => List.mem_cons_of_mem _ (List.mem_append_right _ h)) (by decide +kernel))
set_option maxRecDepth 20000 in
theorem gX7_revoke_X7_checkEndingToken : GoodIn wsX7_revoke (wsV RX7 143 RX7 yX7_checkEndingToken wsX7_checkEndingToken) := goodIn_app (goodIn_of _ (by decide +kernel)) ggX7_revoke_X7_checkEndingToken
set_option maxRecDepth 20000 in
theorem ggX7_revoke_X7_endToken : GoodIn wsX7_revoke wsX7_endToken := goodIn_r _ [39, 8, 40, 41, 42, 43, 44, 45, 13, 46, 31, 47, 48, 49, 50, 29, 30, 32, 33, 34, 12, 14, 15, 35, 51, 52, 53, 54, 4, 55, 56, 57, 58, 59, 60, 61, 62, 63, 64, 65, 66, 67, 68, 27, 28, 69, 70, 71, 72, 73, 74, 75, 76, 77, 78, 79, 80, 81, 82, 83, 84, 85, 86, 87, 88, 89, 90, 91, 92, 93, 94, 95, 96, 97, 98, 99, 100, 101, 102, 103, 104, 105, 106, 107, 108, 109, 110, 111, 112, 113, 114, 115, 116, 117, 118, 119, 120, 121, 122, 123, 124, 125, 126] (by decide +kernel) (by decide +kernel)
set_option maxRecDepth 20000 in
theorem gX7_revoke_X7_endToken : GoodIn wsX7_revoke (wsV RX7 152 RX7 yX7_endToken wsX7_endToken) := goodIn_app (goodIn_of _ (by decide +kernel)) ggX7_revoke_X7_endToken
theorem dX7_revoke_0 : decode cX7_revoke 0 = .ok (.aload_n 0, 1) := by decide +kernel
theorem dX7_revoke_1 : decode cX7_revoke 1 = .ok (.iload_n 1, 1) := by decide +kernel
theorem dX7_revoke_2 : decode cX7_revoke 2 = .ok (.invokevirtual 112, 3) := by decide +kernel
theorem dX7_revoke_5 : decode cX7_revoke 5 = .ok (.aload_n 0, 1) := by decide +kernel
theorem dX7_revoke_6 : decode cX7_revoke 6 = .ok (.iload_n 1, 1) := by decide +kernel
theorem dX7_revoke_7 : decode cX7_revoke 7 = .ok (.invokevirtual 143, 3) := by decide +kernel
theorem dX7_revoke_10 : decode cX7_revoke 10 = .ok (.aload_n 0, 1) := by decide +kernel
theorem dX7_revoke_11 : decode cX7_revoke 11 = .ok (.iload_n 1, 1) := by decide +kernel
theorem dX7_revoke_12 : decode cX7_revoke 12 = .ok (.invokevirtual 152, 3) := by decide +kernel
theorem dX7_revoke_15 : decode cX7_revoke 15 = .ok (.ireturn, 1) := by decide +kernel
set_option maxRecDepth 20000 in
theorem ggX7_revokeAlone_X7_checkToken : GoodIn wsX7_revokeAlone wsX7_checkToken := goodIn_ca (goodIn_r _ [6, 7, 8, 1, 9, 10, 11, 12, 13, 14, 15, 103, 104, 105, 106, 107, 108, 109, 110, 111, 112, 113, 114, 115, 116, 117, 118, 119, 120, 121, 122, 123, 124, 125] (by decide +kernel) (by decide +kernel)) (goodIn_sub (fun _ h => List.mem_cons_of_mem _ (List.mem_append_left _ (List.mem_append_right _ h))) (by decide +kernel))
set_option maxRecDepth 20000 in
theorem gX7_revokeAlone_X7_checkToken : GoodIn wsX7_revokeAlone (wsV RX7 112 RX7 yX7_checkToken wsX7_checkToken) := goodIn_app (goodIn_of _ (by decide +kernel)) ggX7_revokeAlone_X7_checkToken
set_option maxRecDepth 20000 in
theorem ggX7_revokeAlone_X7_checkEndingToken : GoodIn wsX7_revokeAlone wsX7_checkEndingToken := goodIn_ca (goodIn_r _ [19, 20, 21, 22, 23, 24, 5, 25, 1, 26, 27, 28, 29, 13, 30, 31, 32, 33, 34, 12, 14, 15, 35, 103, 104, 105, 106, 107, 108, 109, 110, 111, 112, 113, 114, 115, 116, 117, 118, 119, 120, 121, 122, 123, 124, 125] (by decide +kernel) (by decide +kernel)) (goodIn_sub (fun _ h => List.mem_cons_of_mem _ (List.mem_append_right _ h)) (by decide +kernel))
set_option maxRecDepth 20000 in
theorem gX7_revokeAlone_X7_checkEndingToken : GoodIn wsX7_revokeAlone (wsV RX7 143 RX7 yX7_checkEndingToken wsX7_checkEndingToken) := goodIn_app (goodIn_of _ (by decide +kernel)) ggX7_revokeAlone_X7_checkEndingToken
set_option maxRecDepth 20000 in
theorem ggX7_revokeAlone_X6_freeChildren : GoodIn wsX7_revokeAlone wsX6_freeChildren := goodIn_r _ [40, 41, 42, 43, 44, 45, 13, 46, 15, 47, 27, 28, 29, 30, 31, 32, 33, 34, 12, 14, 35, 117, 118, 119, 120, 121, 122, 123, 124, 125, 109, 110, 111, 112, 113, 114, 115, 116] (by decide +kernel) (by decide +kernel)
set_option maxRecDepth 20000 in
theorem gX7_revokeAlone_X6_freeChildren : GoodIn wsX7_revokeAlone (wsV RX7 155 RX6 yX6_freeChildren wsX6_freeChildren) := goodIn_app (goodIn_of _ (by decide +kernel)) ggX7_revokeAlone_X6_freeChildren
set_option maxRecDepth 20000 in
theorem ggX7_revokeAlone_X7_endToken : GoodIn wsX7_revokeAlone wsX7_endToken := goodIn_r _ [51, 1, 52, 53, 54, 55, 56, 57, 13, 58, 31, 59, 60, 61, 62, 29, 30, 32, 33, 34, 12, 14, 15, 35, 63, 64, 65, 66, 5, 67, 68, 69, 70, 71, 39, 72, 41, 42, 43, 44, 45, 46, 47, 27, 28, 73, 74, 75, 76, 77, 78, 79, 80, 81, 82, 83, 84, 85, 86, 87, 88, 89, 90, 91, 92, 93, 94, 95, 96, 97, 98, 99, 100, 101, 102, 103, 104, 105, 106, 107, 108, 109, 110, 111, 112, 113, 114, 115, 116, 117, 118, 119, 120, 121, 122, 123, 124, 125, 126, 127, 128, 129, 130] (by decide +kernel) (by decide +kernel)
set_option maxRecDepth 20000 in
theorem gX7_revokeAlone_X7_endToken : GoodIn wsX7_revokeAlone (wsV RX7 152 RX7 yX7_endToken wsX7_endToken) := goodIn_app (goodIn_of _ (by decide +kernel)) ggX7_revokeAlone_X7_endToken
theorem dX7_revokeAlone_0 : decode cX7_revokeAlone 0 = .ok (.aload_n 0, 1) := by decide +kernel
theorem dX7_revokeAlone_1 : decode cX7_revokeAlone 1 = .ok (.iload_n 1, 1) := by decide +kernel
theorem dX7_revokeAlone_2 : decode cX7_revokeAlone 2 = .ok (.invokevirtual 112, 3) := by decide +kernel
theorem dX7_revokeAlone_5 : decode cX7_revokeAlone 5 = .ok (.aload_n 0, 1) := by decide +kernel
theorem dX7_revokeAlone_6 : decode cX7_revokeAlone 6 = .ok (.iload_n 1, 1) := by decide +kernel
theorem dX7_revokeAlone_7 : decode cX7_revokeAlone 7 = .ok (.invokevirtual 143, 3) := by decide +kernel
theorem dX7_revokeAlone_10 : decode cX7_revokeAlone 10 = .ok (.aload_n 0, 1) := by decide +kernel
theorem dX7_revokeAlone_11 : decode cX7_revokeAlone 11 = .ok (.getfield 26, 3) := by decide +kernel
theorem dX7_revokeAlone_14 : decode cX7_revokeAlone 14 = .ok (.iload_n 1, 1) := by decide +kernel
theorem dX7_revokeAlone_15 : decode cX7_revokeAlone 15 = .ok (.invokevirtual 155, 3) := by decide +kernel
theorem dX7_revokeAlone_18 : decode cX7_revokeAlone 18 = .ok (.aload_n 0, 1) := by decide +kernel
theorem dX7_revokeAlone_19 : decode cX7_revokeAlone 19 = .ok (.iload_n 1, 1) := by decide +kernel
theorem dX7_revokeAlone_20 : decode cX7_revokeAlone 20 = .ok (.invokevirtual 152, 3) := by decide +kernel
theorem dX7_revokeAlone_23 : decode cX7_revokeAlone 23 = .ok (.ireturn, 1) := by decide +kernel
set_option maxRecDepth 20000 in
theorem ggX7_isAlive_X7_checkToken : GoodIn wsX7_isAlive wsX7_checkToken := goodIn_ca (goodIn_r _ [6, 7, 8, 1, 9, 10, 11, 12, 13, 14, 15, 26, 27, 28, 29, 30, 31, 32, 33, 34, 35, 36, 37, 38, 39, 40, 41, 42, 43, 44, 45, 46, 47, 48] (by decide +kernel) (by decide +kernel)) (goodIn_sub (fun _ h => List.mem_cons_of_mem _ (List.mem_append_right _ h)) (by decide +kernel))
set_option maxRecDepth 20000 in
theorem gX7_isAlive_X7_checkToken : GoodIn wsX7_isAlive (wsV RX7 112 RX7 yX7_checkToken wsX7_checkToken) := goodIn_app (goodIn_of _ (by decide +kernel)) ggX7_isAlive_X7_checkToken
set_option maxRecDepth 20000 in
theorem ggX7_isAlive_X2_isOn : GoodIn wsX7_isAlive wsX2_isOn := goodIn_r _ [20, 21, 22, 23, 24, 12, 13, 14, 15, 25, 32, 33, 34, 35, 36, 37, 38, 39, 40, 41, 42, 43, 44, 45, 46, 47, 48] (by decide +kernel) (by decide +kernel)
set_option maxRecDepth 20000 in
theorem gX7_isAlive_X2_isOn_u158X6 : GoodIn wsX7_isAlive (va_wsU RX7 158 RX6 "SecretBroker$Leased" ⟨"SecretBroker$Tokens", "isOn", "(I)Z"⟩ yX2_isOn wsX2_isOn) := goodIn_app (goodIn_of _ (by decide +kernel)) ggX7_isAlive_X2_isOn
theorem dX7_isAlive_0 : decode cX7_isAlive 0 = .ok (.aload_n 0, 1) := by decide +kernel
theorem dX7_isAlive_1 : decode cX7_isAlive 1 = .ok (.iload_n 1, 1) := by decide +kernel
theorem dX7_isAlive_2 : decode cX7_isAlive 2 = .ok (.invokevirtual 112, 3) := by decide +kernel
theorem dX7_isAlive_5 : decode cX7_isAlive 5 = .ok (.aload_n 0, 1) := by decide +kernel
theorem dX7_isAlive_6 : decode cX7_isAlive 6 = .ok (.getfield 26, 3) := by decide +kernel
theorem dX7_isAlive_9 : decode cX7_isAlive 9 = .ok (.iload_n 1, 1) := by decide +kernel
theorem dX7_isAlive_10 : decode cX7_isAlive 10 = .ok (.invokevirtual 158, 3) := by decide +kernel
theorem dX7_isAlive_13 : decode cX7_isAlive 13 = .ok (.ireturn, 1) := by decide +kernel
set_option maxRecDepth 20000 in
theorem ggX7_parentOf_X7_checkToken : GoodIn wsX7_parentOf wsX7_checkToken := goodIn_ca (goodIn_r _ [6, 7, 8, 1, 9, 10, 11, 12, 13, 14, 15, 23, 24, 25, 26, 27, 28, 29, 30, 31, 32, 33, 34, 35, 36, 37, 38, 39, 40, 41, 42, 43, 44, 45] (by decide +kernel) (by decide +kernel)) (goodIn_sub (fun _ h => List.mem_cons_of_mem _ (List.mem_append_right _ h)) (by decide +kernel))
set_option maxRecDepth 20000 in
theorem gX7_parentOf_X7_checkToken : GoodIn wsX7_parentOf (wsV RX7 112 RX7 yX7_checkToken wsX7_checkToken) := goodIn_app (goodIn_of _ (by decide +kernel)) ggX7_parentOf_X7_checkToken
set_option maxRecDepth 20000 in
theorem ggX7_parentOf_X6_parentAt : GoodIn wsX7_parentOf wsX6_parentAt := goodIn_r _ [20, 21, 22, 10, 11, 12, 13, 14, 15, 37, 38, 39, 40, 41, 42, 43, 44, 45, 29, 30, 31, 32, 33, 34, 35, 36] (by decide +kernel) (by decide +kernel)
set_option maxRecDepth 20000 in
theorem gX7_parentOf_X6_parentAt : GoodIn wsX7_parentOf (wsV RX7 161 RX6 yX6_parentAt wsX6_parentAt) := goodIn_app (goodIn_of _ (by decide +kernel)) ggX7_parentOf_X6_parentAt
theorem dX7_parentOf_0 : decode cX7_parentOf 0 = .ok (.aload_n 0, 1) := by decide +kernel
theorem dX7_parentOf_1 : decode cX7_parentOf 1 = .ok (.iload_n 1, 1) := by decide +kernel
theorem dX7_parentOf_2 : decode cX7_parentOf 2 = .ok (.invokevirtual 112, 3) := by decide +kernel
theorem dX7_parentOf_5 : decode cX7_parentOf 5 = .ok (.aload_n 0, 1) := by decide +kernel
theorem dX7_parentOf_6 : decode cX7_parentOf 6 = .ok (.getfield 26, 3) := by decide +kernel
theorem dX7_parentOf_9 : decode cX7_parentOf 9 = .ok (.iload_n 1, 1) := by decide +kernel
theorem dX7_parentOf_10 : decode cX7_parentOf 10 = .ok (.invokevirtual 161, 3) := by decide +kernel
theorem dX7_parentOf_13 : decode cX7_parentOf 13 = .ok (.ireturn, 1) := by decide +kernel
set_option maxRecDepth 20000 in
theorem ggX7_endOf_X7_checkToken : GoodIn wsX7_endOf wsX7_checkToken := goodIn_ca (goodIn_r _ [6, 7, 8, 1, 9, 10, 11, 12, 13, 14, 15, 26, 27, 28, 29, 30, 31, 32, 33, 34, 35, 36, 37, 38, 39, 40, 41, 42, 43, 44, 45, 46, 47, 48] (by decide +kernel) (by decide +kernel)) (goodIn_sub (fun _ h => List.mem_cons_of_mem _ (List.mem_append_right _ h)) (by decide +kernel))
set_option maxRecDepth 20000 in
theorem gX7_endOf_X7_checkToken : GoodIn wsX7_endOf (wsV RX7 112 RX7 yX7_checkToken wsX7_checkToken) := goodIn_app (goodIn_of _ (by decide +kernel)) ggX7_endOf_X7_checkToken
set_option maxRecDepth 20000 in
theorem ggX7_endOf_X2_endAt : GoodIn wsX7_endOf wsX2_endAt := goodIn_r _ [20, 21, 22, 23, 24, 12, 13, 14, 15, 25, 32, 33, 34, 35, 36, 37, 38, 39, 40, 41, 42, 43, 44, 45, 46, 47, 48] (by decide +kernel) (by decide +kernel)
set_option maxRecDepth 20000 in
theorem gX7_endOf_X2_endAt_u149X6 : GoodIn wsX7_endOf (va_wsU RX7 149 RX6 "SecretBroker$Leased" ⟨"SecretBroker$Tokens", "endAt", "(I)I"⟩ yX2_endAt wsX2_endAt) := goodIn_app (goodIn_of _ (by decide +kernel)) ggX7_endOf_X2_endAt
theorem dX7_endOf_0 : decode cX7_endOf 0 = .ok (.aload_n 0, 1) := by decide +kernel
theorem dX7_endOf_1 : decode cX7_endOf 1 = .ok (.iload_n 1, 1) := by decide +kernel
theorem dX7_endOf_2 : decode cX7_endOf 2 = .ok (.invokevirtual 112, 3) := by decide +kernel
theorem dX7_endOf_5 : decode cX7_endOf 5 = .ok (.aload_n 0, 1) := by decide +kernel
theorem dX7_endOf_6 : decode cX7_endOf 6 = .ok (.getfield 26, 3) := by decide +kernel
theorem dX7_endOf_9 : decode cX7_endOf 9 = .ok (.iload_n 1, 1) := by decide +kernel
theorem dX7_endOf_10 : decode cX7_endOf 10 = .ok (.invokevirtual 149, 3) := by decide +kernel
theorem dX7_endOf_13 : decode cX7_endOf 13 = .ok (.ireturn, 1) := by decide +kernel
set_option maxRecDepth 20000 in
theorem ggX7_usesLeft_X7_checkToken : GoodIn wsX7_usesLeft wsX7_checkToken := goodIn_ca (goodIn_r _ [6, 7, 8, 1, 9, 10, 11, 12, 13, 14, 15, 23, 24, 25, 26, 27, 28, 29, 30, 31, 32, 33, 34, 35, 36, 37, 38, 39, 40, 41, 42, 43, 44, 45] (by decide +kernel) (by decide +kernel)) (goodIn_sub (fun _ h => List.mem_cons_of_mem _ (List.mem_append_right _ h)) (by decide +kernel))
set_option maxRecDepth 20000 in
theorem gX7_usesLeft_X7_checkToken : GoodIn wsX7_usesLeft (wsV RX7 112 RX7 yX7_checkToken wsX7_checkToken) := goodIn_app (goodIn_of _ (by decide +kernel)) ggX7_usesLeft_X7_checkToken
set_option maxRecDepth 20000 in
theorem ggX7_usesLeft_X6_usesAt : GoodIn wsX7_usesLeft wsX6_usesAt := goodIn_r _ [20, 21, 22, 10, 11, 12, 13, 14, 15, 37, 38, 39, 40, 41, 42, 43, 44, 45, 29, 30, 31, 32, 33, 34, 35, 36] (by decide +kernel) (by decide +kernel)
set_option maxRecDepth 20000 in
theorem gX7_usesLeft_X6_usesAt : GoodIn wsX7_usesLeft (wsV RX7 164 RX6 yX6_usesAt wsX6_usesAt) := goodIn_app (goodIn_of _ (by decide +kernel)) ggX7_usesLeft_X6_usesAt
theorem dX7_usesLeft_0 : decode cX7_usesLeft 0 = .ok (.aload_n 0, 1) := by decide +kernel
theorem dX7_usesLeft_1 : decode cX7_usesLeft 1 = .ok (.iload_n 1, 1) := by decide +kernel
theorem dX7_usesLeft_2 : decode cX7_usesLeft 2 = .ok (.invokevirtual 112, 3) := by decide +kernel
theorem dX7_usesLeft_5 : decode cX7_usesLeft 5 = .ok (.aload_n 0, 1) := by decide +kernel
theorem dX7_usesLeft_6 : decode cX7_usesLeft 6 = .ok (.getfield 26, 3) := by decide +kernel
theorem dX7_usesLeft_9 : decode cX7_usesLeft 9 = .ok (.iload_n 1, 1) := by decide +kernel
theorem dX7_usesLeft_10 : decode cX7_usesLeft 10 = .ok (.invokevirtual 164, 3) := by decide +kernel
theorem dX7_usesLeft_13 : decode cX7_usesLeft 13 = .ok (.ireturn, 1) := by decide +kernel
set_option maxRecDepth 20000 in
theorem ggX7_below_X7_checkToken : GoodIn wsX7_below wsX7_checkToken := goodIn_ca (goodIn_r _ [6, 7, 8, 1, 9, 10, 11, 12, 13, 14, 15, 46, 47, 48, 49, 50, 51, 52, 53, 54, 55, 56, 57, 58, 59, 60, 61, 62, 63, 64, 65, 66, 67, 68] (by decide +kernel) (by decide +kernel)) (goodIn_sub (fun _ h => List.mem_cons_of_mem _ (List.mem_append_right _ h)) (by decide +kernel))
set_option maxRecDepth 20000 in
theorem gX7_below_X7_checkToken : GoodIn wsX7_below (wsV RX7 112 RX7 yX7_checkToken wsX7_checkToken) := goodIn_app (goodIn_of _ (by decide +kernel)) ggX7_below_X7_checkToken
set_option maxRecDepth 20000 in
theorem ggX7_below_X6_livingBelow : GoodIn wsX7_below wsX6_livingBelow := goodIn_r _ [20, 21, 22, 23, 24, 13, 25, 15, 26, 27, 28, 29, 30, 31, 32, 33, 34, 12, 14, 35, 36, 37, 38, 19, 39, 40, 41, 42, 43, 44, 45, 10, 11, 52, 53, 54, 55, 56, 57, 58, 59, 60, 61, 62, 63, 64, 65, 66, 67, 68] (by decide +kernel) (by decide +kernel)
set_option maxRecDepth 20000 in
theorem gX7_below_X6_livingBelow : GoodIn wsX7_below (wsV RX7 167 RX6 yX6_livingBelow wsX6_livingBelow) := goodIn_app (goodIn_of _ (by decide +kernel)) ggX7_below_X6_livingBelow
theorem dX7_below_0 : decode cX7_below 0 = .ok (.aload_n 0, 1) := by decide +kernel
theorem dX7_below_1 : decode cX7_below 1 = .ok (.iload_n 1, 1) := by decide +kernel
theorem dX7_below_2 : decode cX7_below 2 = .ok (.invokevirtual 112, 3) := by decide +kernel
theorem dX7_below_5 : decode cX7_below 5 = .ok (.aload_n 0, 1) := by decide +kernel
theorem dX7_below_6 : decode cX7_below 6 = .ok (.getfield 26, 3) := by decide +kernel
theorem dX7_below_9 : decode cX7_below 9 = .ok (.iload_n 1, 1) := by decide +kernel
theorem dX7_below_10 : decode cX7_below 10 = .ok (.invokevirtual 167, 3) := by decide +kernel
theorem dX7_below_13 : decode cX7_below 13 = .ok (.ireturn, 1) := by decide +kernel
set_option maxRecDepth 20000 in
theorem ggX7_tokens_X2_living : GoodIn wsX7_tokens wsX2_living := goodIn_r _ [7, 8, 15, 16, 17, 18, 19, 20, 21, 22, 23, 24, 25, 26, 27, 28, 29, 30, 31] (by decide +kernel) (by decide +kernel)
set_option maxRecDepth 20000 in
theorem gX7_tokens_X2_living_u124X6 : GoodIn wsX7_tokens (va_wsU RX7 124 RX6 "SecretBroker$Leased" ⟨"SecretBroker$Tokens", "living", "()I"⟩ yX2_living wsX2_living) := goodIn_app (goodIn_of _ (by decide +kernel)) ggX7_tokens_X2_living
theorem dX7_tokens_0 : decode cX7_tokens 0 = .ok (.aload_n 0, 1) := by decide +kernel
theorem dX7_tokens_1 : decode cX7_tokens 1 = .ok (.getfield 26, 3) := by decide +kernel
theorem dX7_tokens_4 : decode cX7_tokens 4 = .ok (.invokevirtual 124, 3) := by decide +kernel
theorem dX7_tokens_7 : decode cX7_tokens 7 = .ok (.ireturn, 1) := by decide +kernel
set_option maxRecDepth 20000 in
theorem ggX7_capabilities_X7_checkToken : GoodIn wsX7_capabilities wsX7_checkToken := goodIn_ca (goodIn_r _ [5, 6, 7, 8, 9, 10, 11, 12, 13, 14, 15, 77, 78, 79, 80, 81, 82, 83, 84, 85, 86, 87, 88, 89, 90, 91, 92, 93, 94, 95, 96, 97, 98, 99] (by decide +kernel) (by decide +kernel)) (goodIn_sub (fun _ h => List.mem_cons_of_mem _ (List.mem_append_left _ (List.mem_append_right _ h))) (by decide +kernel))
set_option maxRecDepth 20000 in
theorem gX7_capabilities_X7_checkToken : GoodIn wsX7_capabilities (wsV RX7 112 RX7 yX7_checkToken wsX7_checkToken) := goodIn_app (goodIn_of _ (by decide +kernel)) ggX7_capabilities_X7_checkToken
set_option maxRecDepth 20000 in
theorem ggX7_capabilities_X7_checkPath : GoodIn wsX7_capabilities wsX7_checkPath := goodIn_ca (goodIn_r _ [18, 19, 20, 21, 22, 23, 24, 25, 26, 27, 28] (by decide +kernel) (by decide +kernel)) (goodIn_sub (fun _ h => List.mem_cons_of_mem _ (List.mem_append_right _ h)) (by decide +kernel))
set_option maxRecDepth 20000 in
theorem gX7_capabilities_X7_checkPath : GoodIn wsX7_capabilities (va_wsS RX7 98 yX7_checkPath wsX7_checkPath) := goodIn_app (goodIn_of _ (by decide +kernel)) ggX7_capabilities_X7_checkPath
set_option maxRecDepth 20000 in
theorem ggX7_capabilities_X7_capabilitiesAt : GoodIn wsX7_capabilities wsX7_capabilitiesAt := goodIn_r _ [32, 33, 8, 34, 35, 36, 37, 38, 39, 40, 10, 11, 12, 13, 14, 15, 41, 42, 43, 44, 45, 46, 47, 48, 49, 50, 51, 52, 53, 54, 55, 56, 57, 58, 59, 60, 61, 62, 63, 64, 23, 65, 66, 67, 68, 69, 70, 71, 72, 73, 74, 75, 76, 77, 78, 79, 80, 81, 82, 91, 92, 93, 94, 95, 96, 97, 98, 99, 83, 84, 85, 86, 87, 88, 89, 90, 100, 101, 102, 103, 104] (by decide +kernel) (by decide +kernel)
set_option maxRecDepth 20000 in
theorem gX7_capabilities_X7_capabilitiesAt : GoodIn wsX7_capabilities (wsV RX7 170 RX7 yX7_capabilitiesAt wsX7_capabilitiesAt) := goodIn_app (goodIn_of _ (by decide +kernel)) ggX7_capabilities_X7_capabilitiesAt
theorem dX7_capabilities_0 : decode cX7_capabilities 0 = .ok (.aload_n 0, 1) := by decide +kernel
theorem dX7_capabilities_1 : decode cX7_capabilities 1 = .ok (.iload_n 1, 1) := by decide +kernel
theorem dX7_capabilities_2 : decode cX7_capabilities 2 = .ok (.invokevirtual 112, 3) := by decide +kernel
end
section
theorem dX7_capabilities_5 : decode cX7_capabilities 5 = .ok (.iload_n 2, 1) := by decide +kernel
theorem dX7_capabilities_6 : decode cX7_capabilities 6 = .ok (.invokestatic 98, 3) := by decide +kernel
theorem dX7_capabilities_9 : decode cX7_capabilities 9 = .ok (.aload_n 0, 1) := by decide +kernel
theorem dX7_capabilities_10 : decode cX7_capabilities 10 = .ok (.iload_n 1, 1) := by decide +kernel
theorem dX7_capabilities_11 : decode cX7_capabilities 11 = .ok (.iload_n 2, 1) := by decide +kernel
theorem dX7_capabilities_12 : decode cX7_capabilities 12 = .ok (.invokevirtual 170, 3) := by decide +kernel
theorem dX7_capabilities_15 : decode cX7_capabilities 15 = .ok (.ireturn, 1) := by decide +kernel
set_option maxRecDepth 20000 in
theorem ggX7_request_X7_checkToken : GoodIn wsX7_request wsX7_checkToken := goodIn_ca (goodIn_r _ [11, 12, 13, 4, 14, 15, 16, 17, 18, 19, 20, 180, 181, 182, 183, 184, 185, 186, 187, 188, 189, 190, 191, 192, 193, 194, 195, 196, 197, 198, 199, 200, 201, 202] (by decide +kernel) (by decide +kernel)) (goodIn_sub (fun _ h => List.mem_cons_of_mem _ (List.mem_append_left _ (List.mem_append_right _ h))) (by decide +kernel))
set_option maxRecDepth 20000 in
theorem gX7_request_X7_checkToken : GoodIn wsX7_request (wsV RX7 112 RX7 yX7_checkToken wsX7_checkToken) := goodIn_app (goodIn_of _ (by decide +kernel)) ggX7_request_X7_checkToken
set_option maxRecDepth 20000 in
theorem ggX7_request_X7_checkPath : GoodIn wsX7_request wsX7_checkPath := goodIn_ca (goodIn_r _ [23, 24, 25, 26, 27, 28, 29, 30, 31, 32, 33] (by decide +kernel) (by decide +kernel)) (goodIn_sub (fun _ h => List.mem_cons_of_mem _ (List.mem_append_right _ h)) (by decide +kernel))
set_option maxRecDepth 20000 in
theorem gX7_request_X7_checkPath : GoodIn wsX7_request (va_wsS RX7 98 yX7_checkPath wsX7_checkPath) := goodIn_app (goodIn_of _ (by decide +kernel)) ggX7_request_X7_checkPath
set_option maxRecDepth 20000 in
theorem ggX7_request_X7_reasonAgainst : GoodIn wsX7_request wsX7_reasonAgainst := goodIn_r _ [37, 4, 38, 39, 40, 41, 42, 18, 43, 44, 45, 46, 47, 17, 19, 20, 48, 49, 50, 51, 52, 53, 54, 55, 15, 16, 56, 57, 58, 59, 60, 61, 62, 63, 64, 28, 65, 66, 67, 68, 69, 70, 71, 72, 73, 74, 10, 75, 76, 77, 78, 79, 80, 81, 82, 83, 84, 85, 86, 87, 88, 89, 90, 91, 92, 93, 94, 95, 96, 97, 98, 99, 100, 101, 102, 103, 104, 105, 106, 107, 108, 109, 110, 111, 180, 181, 182, 183, 184, 185, 186, 187, 188, 189, 190, 191, 192, 193, 194, 195, 196, 197, 198, 199, 200, 201, 202, 203, 204, 205, 206, 207, 208, 209, 210, 211] (by decide +kernel) (by decide +kernel)
set_option maxRecDepth 20000 in
theorem gX7_request_X7_reasonAgainst : GoodIn wsX7_request (wsV RX7 174 RX7 yX7_reasonAgainst wsX7_reasonAgainst) := goodIn_app (goodIn_of _ (by decide +kernel)) ggX7_request_X7_reasonAgainst
set_option maxRecDepth 20000 in
theorem ggX7_request_X2_living : GoodIn wsX7_request wsX2_living := goodIn_r _ [116, 117, 186, 187, 188, 189, 190, 191, 192, 193, 194, 195, 196, 197, 198, 199, 200, 201, 202] (by decide +kernel) (by decide +kernel)
set_option maxRecDepth 20000 in
theorem gX7_request_X2_living_u177X1 : GoodIn wsX7_request (va_wsU RX7 177 RX1 "SecretBroker$Leased" ⟨"SecretBroker$Credentials", "living", "()I"⟩ yX2_living wsX2_living) := goodIn_app (goodIn_of _ (by decide +kernel)) ggX7_request_X2_living
set_option maxRecDepth 20000 in
theorem ggX7_request_X2_isFull : GoodIn wsX7_request wsX2_isFull := goodIn_r _ [122, 20, 186, 187, 188, 189, 190, 191, 192, 193, 194, 195, 196, 197, 198, 199, 200, 201, 202] (by decide +kernel) (by decide +kernel)
set_option maxRecDepth 20000 in
theorem gX7_request_X2_isFull_u178X1 : GoodIn wsX7_request (va_wsU RX7 178 RX1 "SecretBroker$Leased" ⟨"SecretBroker$Credentials", "isFull", "()Z"⟩ yX2_isFull wsX2_isFull) := goodIn_app (goodIn_of _ (by decide +kernel)) ggX7_request_X2_isFull
set_option maxRecDepth 20000 in
theorem ggX7_request_X6_takeUse : GoodIn wsX7_request wsX6_takeUse := goodIn_r _ [126, 54, 127, 40, 41, 42, 18, 43, 44, 45, 46, 47, 17, 19, 20, 48, 194, 195, 196, 197, 198, 199, 200, 201, 202, 186, 187, 188, 189, 190, 191, 192, 193] (by decide +kernel) (by decide +kernel)
set_option maxRecDepth 20000 in
theorem gX7_request_X6_takeUse : GoodIn wsX7_request (wsV RX7 181 RX6 yX6_takeUse wsX6_takeUse) := goodIn_app (goodIn_of _ (by decide +kernel)) ggX7_request_X6_takeUse
set_option maxRecDepth 20000 in
theorem ggX7_request_X0_write : GoodIn wsX7_request wsX0_write := goodIn_r _ [132, 133, 134, 135, 136, 137, 138, 139, 140, 141, 142, 143, 212, 213, 214, 215, 216] (by decide +kernel) (by decide +kernel)
set_option maxRecDepth 20000 in
theorem gX7_request_X0_write : GoodIn wsX7_request (wsV RX7 140 RX0 yX0_write wsX0_write) := goodIn_app (goodIn_of _ (by decide +kernel)) ggX7_request_X0_write
set_option maxRecDepth 20000 in
theorem ggX7_request_X7_give : GoodIn wsX7_request wsX7_give := goodIn_r _ [147, 38, 6, 3, 56, 57, 58, 59, 60, 61, 62, 63, 64, 28, 65, 66, 67, 68, 69, 70, 71, 148, 149, 150, 151, 152, 153, 154, 155, 156, 157, 158, 159, 160, 161, 162, 163, 164, 165, 18, 166, 20, 167, 168, 169, 44, 117, 170, 171, 172, 173, 174, 175, 176, 177, 178, 179, 17, 19, 180, 181, 182, 183, 184, 185, 203, 204, 205, 206, 186, 187, 188, 189, 190, 191, 192, 193, 194, 195, 196, 197, 198, 199, 200, 201, 202] (by decide +kernel) (by decide +kernel)
set_option maxRecDepth 20000 in
theorem gX7_request_X7_give : GoodIn wsX7_request (wsV RX7 184 RX7 yX7_give wsX7_give) := goodIn_app (goodIn_of _ (by decide +kernel)) ggX7_request_X7_give
theorem dX7_request_0 : decode cX7_request 0 = .ok (.aload_n 0, 1) := by decide +kernel
theorem dX7_request_1 : decode cX7_request 1 = .ok (.iload_n 1, 1) := by decide +kernel
theorem dX7_request_2 : decode cX7_request 2 = .ok (.invokevirtual 112, 3) := by decide +kernel
theorem dX7_request_5 : decode cX7_request 5 = .ok (.iload_n 2, 1) := by decide +kernel
theorem dX7_request_6 : decode cX7_request 6 = .ok (.invokestatic 98, 3) := by decide +kernel
theorem dX7_request_9 : decode cX7_request 9 = .ok (.aload_n 0, 1) := by decide +kernel
theorem dX7_request_10 : decode cX7_request 10 = .ok (.iload_n 1, 1) := by decide +kernel
theorem dX7_request_11 : decode cX7_request 11 = .ok (.iload_n 2, 1) := by decide +kernel
theorem dX7_request_12 : decode cX7_request 12 = .ok (.invokevirtual 174, 3) := by decide +kernel
theorem dX7_request_15 : decode cX7_request 15 = .ok (.istore_n 3, 1) := by decide +kernel
theorem dX7_request_16 : decode cX7_request 16 = .ok (.iload_n 3, 1) := by decide +kernel
theorem dX7_request_17 : decode cX7_request 17 = .ok (.ifCond .ne 35, 3) := by decide +kernel
theorem dX7_request_20 : decode cX7_request 20 = .ok (.aload_n 0, 1) := by decide +kernel
theorem dX7_request_21 : decode cX7_request 21 = .ok (.getfield 33, 3) := by decide +kernel
theorem dX7_request_24 : decode cX7_request 24 = .ok (.invokevirtual 177, 3) := by decide +kernel
theorem dX7_request_27 : decode cX7_request 27 = .ok (.bipush 40, 2) := by decide +kernel
theorem dX7_request_29 : decode cX7_request 29 = .ok (.if_icmp .ge 13, 3) := by decide +kernel
theorem dX7_request_32 : decode cX7_request 32 = .ok (.aload_n 0, 1) := by decide +kernel
theorem dX7_request_33 : decode cX7_request 33 = .ok (.getfield 33, 3) := by decide +kernel
theorem dX7_request_36 : decode cX7_request 36 = .ok (.invokevirtual 178, 3) := by decide +kernel
theorem dX7_request_39 : decode cX7_request 39 = .ok (.ifCond .eq 13, 3) := by decide +kernel
theorem dX7_request_42 : decode cX7_request 42 = .ok (.new 52, 3) := by decide +kernel
theorem dX7_request_45 : decode cX7_request 45 = .ok (.dup, 1) := by decide +kernel
theorem dX7_request_46 : decode cX7_request 46 = .ok (.ldc 179, 2) := by decide +kernel
theorem dX7_request_48 : decode cX7_request 48 = .ok (.invokespecial 56, 3) := by decide +kernel
theorem dX7_request_51 : decode cX7_request 51 = .ok (.athrow, 1) := by decide +kernel
theorem dX7_request_52 : decode cX7_request 52 = .ok (.aload_n 0, 1) := by decide +kernel
theorem dX7_request_53 : decode cX7_request 53 = .ok (.getfield 26, 3) := by decide +kernel
theorem dX7_request_56 : decode cX7_request 56 = .ok (.iload_n 1, 1) := by decide +kernel
theorem dX7_request_57 : decode cX7_request 57 = .ok (.invokevirtual 181, 3) := by decide +kernel
theorem dX7_request_60 : decode cX7_request 60 = .ok (.iload_n 3, 1) := by decide +kernel
theorem dX7_request_61 : decode cX7_request 61 = .ok (.ifCond .eq 19, 3) := by decide +kernel
theorem dX7_request_64 : decode cX7_request 64 = .ok (.aload_n 0, 1) := by decide +kernel
theorem dX7_request_65 : decode cX7_request 65 = .ok (.getfield 40, 3) := by decide +kernel
theorem dX7_request_68 : decode cX7_request 68 = .ok (.iconst 3, 1) := by decide +kernel
theorem dX7_request_69 : decode cX7_request 69 = .ok (.iload_n 1, 1) := by decide +kernel
theorem dX7_request_70 : decode cX7_request 70 = .ok (.iload_n 3, 1) := by decide +kernel
theorem dX7_request_71 : decode cX7_request 71 = .ok (.aload_n 0, 1) := by decide +kernel
theorem dX7_request_72 : decode cX7_request 72 = .ok (.getfield 44, 3) := by decide +kernel
theorem dX7_request_75 : decode cX7_request 75 = .ok (.invokevirtual 140, 3) := by decide +kernel
theorem dX7_request_78 : decode cX7_request 78 = .ok (.iconst (-1), 1) := by decide +kernel
theorem dX7_request_79 : decode cX7_request 79 = .ok (.ireturn, 1) := by decide +kernel
theorem dX7_request_80 : decode cX7_request 80 = .ok (.aload_n 0, 1) := by decide +kernel
theorem dX7_request_81 : decode cX7_request 81 = .ok (.iload_n 1, 1) := by decide +kernel
theorem dX7_request_82 : decode cX7_request 82 = .ok (.iload_n 2, 1) := by decide +kernel
theorem dX7_request_83 : decode cX7_request 83 = .ok (.invokevirtual 184, 3) := by decide +kernel
theorem dX7_request_86 : decode cX7_request 86 = .ok (.istore 4, 2) := by decide +kernel
theorem dX7_request_88 : decode cX7_request 88 = .ok (.aload_n 0, 1) := by decide +kernel
theorem dX7_request_89 : decode cX7_request 89 = .ok (.getfield 40, 3) := by decide +kernel
theorem dX7_request_92 : decode cX7_request 92 = .ok (.iconst 2, 1) := by decide +kernel
theorem dX7_request_93 : decode cX7_request 93 = .ok (.iload_n 1, 1) := by decide +kernel
theorem dX7_request_94 : decode cX7_request 94 = .ok (.iload 4, 2) := by decide +kernel
theorem dX7_request_96 : decode cX7_request 96 = .ok (.aload_n 0, 1) := by decide +kernel
theorem dX7_request_97 : decode cX7_request 97 = .ok (.getfield 44, 3) := by decide +kernel
theorem dX7_request_100 : decode cX7_request 100 = .ok (.invokevirtual 140, 3) := by decide +kernel
theorem dX7_request_103 : decode cX7_request 103 = .ok (.iload 4, 2) := by decide +kernel
theorem dX7_request_105 : decode cX7_request 105 = .ok (.ireturn, 1) := by decide +kernel
set_option maxRecDepth 20000 in
theorem ggX7_whyDenied_X7_checkToken : GoodIn wsX7_whyDenied wsX7_checkToken := goodIn_ca (goodIn_r _ [5, 6, 7, 8, 9, 10, 11, 12, 13, 14, 15, 107, 108, 109, 110, 111, 112, 113, 114, 115, 116, 117, 118, 119, 120, 121, 122, 123, 124, 125, 126, 127, 128, 129] (by decide +kernel) (by decide +kernel)) (goodIn_sub (fun _ h => List.mem_cons_of_mem _ (List.mem_append_left _ (List.mem_append_right _ h))) (by decide +kernel))
set_option maxRecDepth 20000 in
theorem gX7_whyDenied_X7_checkToken : GoodIn wsX7_whyDenied (wsV RX7 112 RX7 yX7_checkToken wsX7_checkToken) := goodIn_app (goodIn_of _ (by decide +kernel)) ggX7_whyDenied_X7_checkToken
set_option maxRecDepth 20000 in
theorem ggX7_whyDenied_X7_checkPath : GoodIn wsX7_whyDenied wsX7_checkPath := goodIn_ca (goodIn_r _ [18, 19, 20, 21, 22, 23, 24, 25, 26, 27, 28] (by decide +kernel) (by decide +kernel)) (goodIn_sub (fun _ h => List.mem_cons_of_mem _ (List.mem_append_right _ h)) (by decide +kernel))
set_option maxRecDepth 20000 in
theorem gX7_whyDenied_X7_checkPath : GoodIn wsX7_whyDenied (va_wsS RX7 98 yX7_checkPath wsX7_checkPath) := goodIn_app (goodIn_of _ (by decide +kernel)) ggX7_whyDenied_X7_checkPath
set_option maxRecDepth 20000 in
theorem ggX7_whyDenied_X7_reasonAgainst : GoodIn wsX7_whyDenied wsX7_reasonAgainst := goodIn_r _ [32, 8, 33, 34, 35, 36, 37, 13, 38, 39, 40, 41, 42, 12, 14, 15, 43, 44, 45, 46, 47, 48, 49, 50, 10, 11, 51, 52, 53, 54, 55, 56, 57, 58, 59, 23, 60, 61, 62, 63, 64, 65, 66, 67, 68, 69, 4, 70, 71, 72, 73, 74, 75, 76, 77, 78, 79, 80, 81, 82, 83, 84, 85, 86, 87, 88, 89, 90, 91, 92, 93, 94, 95, 96, 97, 98, 99, 100, 101, 102, 103, 104, 105, 106, 107, 108, 109, 110, 111, 112, 113, 114, 115, 116, 117, 118, 119, 120, 121, 122, 123, 124, 125, 126, 127, 128, 129, 130, 131, 132, 133, 134, 135, 136, 137, 138] (by decide +kernel) (by decide +kernel)
set_option maxRecDepth 20000 in
theorem gX7_whyDenied_X7_reasonAgainst : GoodIn wsX7_whyDenied (wsV RX7 174 RX7 yX7_reasonAgainst wsX7_reasonAgainst) := goodIn_app (goodIn_of _ (by decide +kernel)) ggX7_whyDenied_X7_reasonAgainst
theorem dX7_whyDenied_0 : decode cX7_whyDenied 0 = .ok (.aload_n 0, 1) := by decide +kernel
theorem dX7_whyDenied_1 : decode cX7_whyDenied 1 = .ok (.iload_n 1, 1) := by decide +kernel
theorem dX7_whyDenied_2 : decode cX7_whyDenied 2 = .ok (.invokevirtual 112, 3) := by decide +kernel
theorem dX7_whyDenied_5 : decode cX7_whyDenied 5 = .ok (.iload_n 2, 1) := by decide +kernel
theorem dX7_whyDenied_6 : decode cX7_whyDenied 6 = .ok (.invokestatic 98, 3) := by decide +kernel
theorem dX7_whyDenied_9 : decode cX7_whyDenied 9 = .ok (.aload_n 0, 1) := by decide +kernel
theorem dX7_whyDenied_10 : decode cX7_whyDenied 10 = .ok (.iload_n 1, 1) := by decide +kernel
theorem dX7_whyDenied_11 : decode cX7_whyDenied 11 = .ok (.iload_n 2, 1) := by decide +kernel
theorem dX7_whyDenied_12 : decode cX7_whyDenied 12 = .ok (.invokevirtual 174, 3) := by decide +kernel
theorem dX7_whyDenied_15 : decode cX7_whyDenied 15 = .ok (.ireturn, 1) := by decide +kernel
set_option maxRecDepth 20000 in
theorem ggX7_renewCredential_X7_checkCredential : GoodIn wsX7_renewCredential wsX7_checkCredential := goodIn_ca (goodIn_r _ [10, 11, 12, 3, 13, 14, 15, 16, 17, 18, 19, 78, 79, 80, 81, 82, 83, 84, 85, 86, 87, 88, 89, 90, 91, 92, 93, 94, 95, 96, 97, 98, 99, 100] (by decide +kernel) (by decide +kernel)) (goodIn_sub (fun _ h => List.mem_cons_of_mem _ (List.mem_append_left _ (List.mem_append_right _ h))) (by decide +kernel))
set_option maxRecDepth 20000 in
theorem gX7_renewCredential_X7_checkCredential : GoodIn wsX7_renewCredential (wsV RX7 187 RX7 yX7_checkCredential wsX7_checkCredential) := goodIn_app (goodIn_of _ (by decide +kernel)) ggX7_renewCredential_X7_checkCredential
set_option maxRecDepth 20000 in
theorem ggX7_renewCredential_X7_checkRange : GoodIn wsX7_renewCredential wsX7_checkRange := goodIn_ca (goodIn_r _ [22, 23, 24] (by decide +kernel) (by decide +kernel)) (goodIn_sub (fun _ h => List.mem_cons_of_mem _ (List.mem_append_right _ h)) (by decide +kernel))
set_option maxRecDepth 20000 in
theorem gX7_renewCredential_X7_checkRange : GoodIn wsX7_renewCredential (va_wsS RX7 77 yX7_checkRange wsX7_checkRange) := goodIn_app (goodIn_of _ (by decide +kernel)) ggX7_renewCredential_X7_checkRange
set_option maxRecDepth 20000 in
theorem ggX7_renewCredential_X2_isOn : GoodIn wsX7_renewCredential wsX2_isOn := goodIn_r _ [29, 30, 31, 32, 33, 16, 17, 18, 19, 34, 84, 85, 86, 87, 88, 89, 90, 91, 92, 93, 94, 95, 96, 97, 98, 99, 100] (by decide +kernel) (by decide +kernel)
set_option maxRecDepth 20000 in
theorem gX7_renewCredential_X2_isOn_u190X1 : GoodIn wsX7_renewCredential (va_wsU RX7 190 RX1 "SecretBroker$Leased" ⟨"SecretBroker$Credentials", "isOn", "(I)Z"⟩ yX2_isOn wsX2_isOn) := goodIn_app (goodIn_of _ (by decide +kernel)) ggX7_renewCredential_X2_isOn
set_option maxRecDepth 20000 in
theorem ggX7_renewCredential_X2_prolong : GoodIn wsX7_renewCredential wsX2_prolong := goodIn_r _ [39, 40, 41, 42, 43, 44, 45, 46, 47, 48, 49, 31, 32, 33, 16, 17, 18, 19, 34, 84, 85, 86, 87, 88, 89, 90, 91, 92, 93, 94, 95, 96, 97, 98, 99, 100] (by decide +kernel) (by decide +kernel)
set_option maxRecDepth 20000 in
theorem gX7_renewCredential_X2_prolong_u193X1 : GoodIn wsX7_renewCredential (va_wsU RX7 193 RX1 "SecretBroker$Leased" ⟨"SecretBroker$Credentials", "prolong", "(III)V"⟩ yX2_prolong wsX2_prolong) := goodIn_app (goodIn_of _ (by decide +kernel)) ggX7_renewCredential_X2_prolong
set_option maxRecDepth 20000 in
theorem ggX7_renewCredential_X2_endAt : GoodIn wsX7_renewCredential wsX2_endAt := goodIn_r _ [54, 42, 31, 32, 33, 16, 17, 18, 19, 34, 84, 85, 86, 87, 88, 89, 90, 91, 92, 93, 94, 95, 96, 97, 98, 99, 100] (by decide +kernel) (by decide +kernel)
set_option maxRecDepth 20000 in
theorem gX7_renewCredential_X2_endAt_u194X1 : GoodIn wsX7_renewCredential (va_wsU RX7 194 RX1 "SecretBroker$Leased" ⟨"SecretBroker$Credentials", "endAt", "(I)I"⟩ yX2_endAt wsX2_endAt) := goodIn_app (goodIn_of _ (by decide +kernel)) ggX7_renewCredential_X2_endAt
set_option maxRecDepth 20000 in
theorem ggX7_renewCredential_X1_ownerAt : GoodIn wsX7_renewCredential wsX1_ownerAt := goodIn_r _ [59, 60, 61, 14, 15, 16, 17, 18, 19, 84, 85, 86, 87, 88, 89, 90, 91, 92, 93, 94, 95, 96, 97, 98, 99, 100] (by decide +kernel) (by decide +kernel)
set_option maxRecDepth 20000 in
theorem gX7_renewCredential_X1_ownerAt : GoodIn wsX7_renewCredential (wsV RX7 195 RX1 yX1_ownerAt wsX1_ownerAt) := goodIn_app (goodIn_of _ (by decide +kernel)) ggX7_renewCredential_X1_ownerAt
set_option maxRecDepth 20000 in
theorem ggX7_renewCredential_X0_write : GoodIn wsX7_renewCredential wsX0_write := goodIn_r _ [66, 67, 68, 69, 70, 71, 72, 73, 74, 75, 76, 77, 101, 102, 103, 104, 105] (by decide +kernel) (by decide +kernel)
set_option maxRecDepth 20000 in
theorem gX7_renewCredential_X0_write : GoodIn wsX7_renewCredential (wsV RX7 140 RX0 yX0_write wsX0_write) := goodIn_app (goodIn_of _ (by decide +kernel)) ggX7_renewCredential_X0_write
theorem dX7_renewCredential_0 : decode cX7_renewCredential 0 = .ok (.aload_n 0, 1) := by decide +kernel
theorem dX7_renewCredential_1 : decode cX7_renewCredential 1 = .ok (.iload_n 1, 1) := by decide +kernel
theorem dX7_renewCredential_2 : decode cX7_renewCredential 2 = .ok (.invokevirtual 187, 3) := by decide +kernel
theorem dX7_renewCredential_5 : decode cX7_renewCredential 5 = .ok (.iload_n 2, 1) := by decide +kernel
theorem dX7_renewCredential_6 : decode cX7_renewCredential 6 = .ok (.iconst 1, 1) := by decide +kernel
theorem dX7_renewCredential_7 : decode cX7_renewCredential 7 = .ok (.sipush 1000, 3) := by decide +kernel
theorem dX7_renewCredential_10 : decode cX7_renewCredential 10 = .ok (.invokestatic 77, 3) := by decide +kernel
theorem dX7_renewCredential_13 : decode cX7_renewCredential 13 = .ok (.aload_n 0, 1) := by decide +kernel
theorem dX7_renewCredential_14 : decode cX7_renewCredential 14 = .ok (.getfield 33, 3) := by decide +kernel
theorem dX7_renewCredential_17 : decode cX7_renewCredential 17 = .ok (.iload_n 1, 1) := by decide +kernel
theorem dX7_renewCredential_18 : decode cX7_renewCredential 18 = .ok (.invokevirtual 190, 3) := by decide +kernel
theorem dX7_renewCredential_21 : decode cX7_renewCredential 21 = .ok (.ifCond .ne 13, 3) := by decide +kernel
theorem dX7_renewCredential_24 : decode cX7_renewCredential 24 = .ok (.new 52, 3) := by decide +kernel
theorem dX7_renewCredential_27 : decode cX7_renewCredential 27 = .ok (.dup, 1) := by decide +kernel
theorem dX7_renewCredential_28 : decode cX7_renewCredential 28 = .ok (.ldc 191, 2) := by decide +kernel
theorem dX7_renewCredential_30 : decode cX7_renewCredential 30 = .ok (.invokespecial 56, 3) := by decide +kernel
theorem dX7_renewCredential_33 : decode cX7_renewCredential 33 = .ok (.athrow, 1) := by decide +kernel
theorem dX7_renewCredential_34 : decode cX7_renewCredential 34 = .ok (.aload_n 0, 1) := by decide +kernel
theorem dX7_renewCredential_35 : decode cX7_renewCredential 35 = .ok (.getfield 33, 3) := by decide +kernel
theorem dX7_renewCredential_38 : decode cX7_renewCredential 38 = .ok (.iload_n 1, 1) := by decide +kernel
theorem dX7_renewCredential_39 : decode cX7_renewCredential 39 = .ok (.aload_n 0, 1) := by decide +kernel
theorem dX7_renewCredential_40 : decode cX7_renewCredential 40 = .ok (.getfield 44, 3) := by decide +kernel
theorem dX7_renewCredential_43 : decode cX7_renewCredential 43 = .ok (.iload_n 2, 1) := by decide +kernel
theorem dX7_renewCredential_44 : decode cX7_renewCredential 44 = .ok (.invokevirtual 193, 3) := by decide +kernel
theorem dX7_renewCredential_47 : decode cX7_renewCredential 47 = .ok (.aload_n 0, 1) := by decide +kernel
theorem dX7_renewCredential_48 : decode cX7_renewCredential 48 = .ok (.getfield 33, 3) := by decide +kernel
theorem dX7_renewCredential_51 : decode cX7_renewCredential 51 = .ok (.iload_n 1, 1) := by decide +kernel
theorem dX7_renewCredential_52 : decode cX7_renewCredential 52 = .ok (.invokevirtual 194, 3) := by decide +kernel
theorem dX7_renewCredential_55 : decode cX7_renewCredential 55 = .ok (.istore_n 3, 1) := by decide +kernel
theorem dX7_renewCredential_56 : decode cX7_renewCredential 56 = .ok (.aload_n 0, 1) := by decide +kernel
theorem dX7_renewCredential_57 : decode cX7_renewCredential 57 = .ok (.getfield 40, 3) := by decide +kernel
theorem dX7_renewCredential_60 : decode cX7_renewCredential 60 = .ok (.iconst 1, 1) := by decide +kernel
theorem dX7_renewCredential_61 : decode cX7_renewCredential 61 = .ok (.aload_n 0, 1) := by decide +kernel
theorem dX7_renewCredential_62 : decode cX7_renewCredential 62 = .ok (.getfield 33, 3) := by decide +kernel
theorem dX7_renewCredential_65 : decode cX7_renewCredential 65 = .ok (.iload_n 1, 1) := by decide +kernel
theorem dX7_renewCredential_66 : decode cX7_renewCredential 66 = .ok (.invokevirtual 195, 3) := by decide +kernel
theorem dX7_renewCredential_69 : decode cX7_renewCredential 69 = .ok (.iload_n 3, 1) := by decide +kernel
theorem dX7_renewCredential_70 : decode cX7_renewCredential 70 = .ok (.aload_n 0, 1) := by decide +kernel
theorem dX7_renewCredential_71 : decode cX7_renewCredential 71 = .ok (.getfield 44, 3) := by decide +kernel
theorem dX7_renewCredential_74 : decode cX7_renewCredential 74 = .ok (.invokevirtual 140, 3) := by decide +kernel
theorem dX7_renewCredential_77 : decode cX7_renewCredential 77 = .ok (.iload_n 3, 1) := by decide +kernel
theorem dX7_renewCredential_78 : decode cX7_renewCredential 78 = .ok (.ireturn, 1) := by decide +kernel
set_option maxRecDepth 20000 in
theorem ggX7_revokeBelow_X7_checkPath : GoodIn wsX7_revokeBelow wsX7_checkPath := goodIn_ca (goodIn_r _ [7, 8, 9, 10, 11, 12, 13, 14, 15, 16, 17] (by decide +kernel) (by decide +kernel)) (goodIn_sub (fun _ h => List.mem_cons_of_mem _ (List.mem_append_right _ h)) (by decide +kernel))
set_option maxRecDepth 20000 in
theorem gX7_revokeBelow_X7_checkPath : GoodIn wsX7_revokeBelow (va_wsS RX7 98 yX7_checkPath wsX7_checkPath) := goodIn_app (goodIn_of _ (by decide +kernel)) ggX7_revokeBelow_X7_checkPath
set_option maxRecDepth 20000 in
theorem ggX7_revokeBelow_X1_endBelow : GoodIn wsX7_revokeBelow wsX1_endBelow := goodIn_r _ [22, 23, 24, 25, 26, 27, 28, 29, 30, 31, 32, 12, 33, 34, 35, 36, 37, 38, 39, 40, 41, 42, 43, 44, 45, 46, 47, 48, 49, 50, 51, 52, 53, 54, 55, 56, 57, 58, 81, 82, 83, 84, 85, 86, 87, 88, 89, 90, 91, 92, 93, 94, 95, 96, 97] (by decide +kernel) (by decide +kernel)
set_option maxRecDepth 20000 in
theorem gX7_revokeBelow_X1_endBelow : GoodIn wsX7_revokeBelow (wsV RX7 198 RX1 yX1_endBelow wsX1_endBelow) := goodIn_app (goodIn_of _ (by decide +kernel)) ggX7_revokeBelow_X1_endBelow
set_option maxRecDepth 20000 in
theorem ggX7_revokeBelow_X0_write : GoodIn wsX7_revokeBelow wsX0_write := goodIn_r _ [63, 64, 65, 66, 67, 68, 69, 70, 71, 72, 73, 74, 98, 99, 100, 101, 102] (by decide +kernel) (by decide +kernel)
set_option maxRecDepth 20000 in
theorem gX7_revokeBelow_X0_write : GoodIn wsX7_revokeBelow (wsV RX7 140 RX0 yX0_write wsX0_write) := goodIn_app (goodIn_of _ (by decide +kernel)) ggX7_revokeBelow_X0_write
theorem dX7_revokeBelow_0 : decode cX7_revokeBelow 0 = .ok (.iload_n 1, 1) := by decide +kernel
theorem dX7_revokeBelow_1 : decode cX7_revokeBelow 1 = .ok (.invokestatic 98, 3) := by decide +kernel
theorem dX7_revokeBelow_4 : decode cX7_revokeBelow 4 = .ok (.aload_n 0, 1) := by decide +kernel
theorem dX7_revokeBelow_5 : decode cX7_revokeBelow 5 = .ok (.getfield 33, 3) := by decide +kernel
theorem dX7_revokeBelow_8 : decode cX7_revokeBelow 8 = .ok (.iload_n 1, 1) := by decide +kernel
theorem dX7_revokeBelow_9 : decode cX7_revokeBelow 9 = .ok (.invokevirtual 198, 3) := by decide +kernel
theorem dX7_revokeBelow_12 : decode cX7_revokeBelow 12 = .ok (.istore_n 2, 1) := by decide +kernel
theorem dX7_revokeBelow_13 : decode cX7_revokeBelow 13 = .ok (.aload_n 0, 1) := by decide +kernel
theorem dX7_revokeBelow_14 : decode cX7_revokeBelow 14 = .ok (.getfield 40, 3) := by decide +kernel
theorem dX7_revokeBelow_17 : decode cX7_revokeBelow 17 = .ok (.iconst 4, 1) := by decide +kernel
theorem dX7_revokeBelow_18 : decode cX7_revokeBelow 18 = .ok (.iconst 0, 1) := by decide +kernel
theorem dX7_revokeBelow_19 : decode cX7_revokeBelow 19 = .ok (.iload_n 2, 1) := by decide +kernel
theorem dX7_revokeBelow_20 : decode cX7_revokeBelow 20 = .ok (.aload_n 0, 1) := by decide +kernel
theorem dX7_revokeBelow_21 : decode cX7_revokeBelow 21 = .ok (.getfield 44, 3) := by decide +kernel
theorem dX7_revokeBelow_24 : decode cX7_revokeBelow 24 = .ok (.invokevirtual 140, 3) := by decide +kernel
theorem dX7_revokeBelow_27 : decode cX7_revokeBelow 27 = .ok (.iload_n 2, 1) := by decide +kernel
theorem dX7_revokeBelow_28 : decode cX7_revokeBelow 28 = .ok (.ireturn, 1) := by decide +kernel
set_option maxRecDepth 20000 in
theorem ggX7_works_X7_checkCredential : GoodIn wsX7_works wsX7_checkCredential := goodIn_ca (goodIn_r _ [6, 7, 8, 1, 9, 10, 11, 12, 13, 14, 15, 26, 27, 28, 29, 30, 31, 32, 33, 34, 35, 36, 37, 38, 39, 40, 41, 42, 43, 44, 45, 46, 47, 48] (by decide +kernel) (by decide +kernel)) (goodIn_sub (fun _ h => List.mem_cons_of_mem _ (List.mem_append_right _ h)) (by decide +kernel))
set_option maxRecDepth 20000 in
theorem gX7_works_X7_checkCredential : GoodIn wsX7_works (wsV RX7 187 RX7 yX7_checkCredential wsX7_checkCredential) := goodIn_app (goodIn_of _ (by decide +kernel)) ggX7_works_X7_checkCredential
set_option maxRecDepth 20000 in
theorem ggX7_works_X2_isOn : GoodIn wsX7_works wsX2_isOn := goodIn_r _ [20, 21, 22, 23, 24, 12, 13, 14, 15, 25, 32, 33, 34, 35, 36, 37, 38, 39, 40, 41, 42, 43, 44, 45, 46, 47, 48] (by decide +kernel) (by decide +kernel)
set_option maxRecDepth 20000 in
theorem gX7_works_X2_isOn_u190X1 : GoodIn wsX7_works (va_wsU RX7 190 RX1 "SecretBroker$Leased" ⟨"SecretBroker$Credentials", "isOn", "(I)Z"⟩ yX2_isOn wsX2_isOn) := goodIn_app (goodIn_of _ (by decide +kernel)) ggX7_works_X2_isOn
theorem dX7_works_0 : decode cX7_works 0 = .ok (.aload_n 0, 1) := by decide +kernel
theorem dX7_works_1 : decode cX7_works 1 = .ok (.iload_n 1, 1) := by decide +kernel
theorem dX7_works_2 : decode cX7_works 2 = .ok (.invokevirtual 187, 3) := by decide +kernel
theorem dX7_works_5 : decode cX7_works 5 = .ok (.aload_n 0, 1) := by decide +kernel
theorem dX7_works_6 : decode cX7_works 6 = .ok (.getfield 33, 3) := by decide +kernel
theorem dX7_works_9 : decode cX7_works 9 = .ok (.iload_n 1, 1) := by decide +kernel
theorem dX7_works_10 : decode cX7_works 10 = .ok (.invokevirtual 190, 3) := by decide +kernel
theorem dX7_works_13 : decode cX7_works 13 = .ok (.ireturn, 1) := by decide +kernel
set_option maxRecDepth 20000 in
theorem ggX7_endOfCredential_X7_checkCredential : GoodIn wsX7_endOfCredential wsX7_checkCredential := goodIn_ca (goodIn_r _ [6, 7, 8, 1, 9, 10, 11, 12, 13, 14, 15, 26, 27, 28, 29, 30, 31, 32, 33, 34, 35, 36, 37, 38, 39, 40, 41, 42, 43, 44, 45, 46, 47, 48] (by decide +kernel) (by decide +kernel)) (goodIn_sub (fun _ h => List.mem_cons_of_mem _ (List.mem_append_right _ h)) (by decide +kernel))
set_option maxRecDepth 20000 in
theorem gX7_endOfCredential_X7_checkCredential : GoodIn wsX7_endOfCredential (wsV RX7 187 RX7 yX7_checkCredential wsX7_checkCredential) := goodIn_app (goodIn_of _ (by decide +kernel)) ggX7_endOfCredential_X7_checkCredential
set_option maxRecDepth 20000 in
theorem ggX7_endOfCredential_X2_endAt : GoodIn wsX7_endOfCredential wsX2_endAt := goodIn_r _ [20, 21, 22, 23, 24, 12, 13, 14, 15, 25, 32, 33, 34, 35, 36, 37, 38, 39, 40, 41, 42, 43, 44, 45, 46, 47, 48] (by decide +kernel) (by decide +kernel)
set_option maxRecDepth 20000 in
theorem gX7_endOfCredential_X2_endAt_u194X1 : GoodIn wsX7_endOfCredential (va_wsU RX7 194 RX1 "SecretBroker$Leased" ⟨"SecretBroker$Credentials", "endAt", "(I)I"⟩ yX2_endAt wsX2_endAt) := goodIn_app (goodIn_of _ (by decide +kernel)) ggX7_endOfCredential_X2_endAt
theorem dX7_endOfCredential_0 : decode cX7_endOfCredential 0 = .ok (.aload_n 0, 1) := by decide +kernel
theorem dX7_endOfCredential_1 : decode cX7_endOfCredential 1 = .ok (.iload_n 1, 1) := by decide +kernel
theorem dX7_endOfCredential_2 : decode cX7_endOfCredential 2 = .ok (.invokevirtual 187, 3) := by decide +kernel
theorem dX7_endOfCredential_5 : decode cX7_endOfCredential 5 = .ok (.aload_n 0, 1) := by decide +kernel
theorem dX7_endOfCredential_6 : decode cX7_endOfCredential 6 = .ok (.getfield 33, 3) := by decide +kernel
theorem dX7_endOfCredential_9 : decode cX7_endOfCredential 9 = .ok (.iload_n 1, 1) := by decide +kernel
theorem dX7_endOfCredential_10 : decode cX7_endOfCredential 10 = .ok (.invokevirtual 194, 3) := by decide +kernel
theorem dX7_endOfCredential_13 : decode cX7_endOfCredential 13 = .ok (.ireturn, 1) := by decide +kernel
set_option maxRecDepth 20000 in
theorem ggX7_credentials_X2_living : GoodIn wsX7_credentials wsX2_living := goodIn_r _ [7, 8, 15, 16, 17, 18, 19, 20, 21, 22, 23, 24, 25, 26, 27, 28, 29, 30, 31] (by decide +kernel) (by decide +kernel)
set_option maxRecDepth 20000 in
theorem gX7_credentials_X2_living_u177X1 : GoodIn wsX7_credentials (va_wsU RX7 177 RX1 "SecretBroker$Leased" ⟨"SecretBroker$Credentials", "living", "()I"⟩ yX2_living wsX2_living) := goodIn_app (goodIn_of _ (by decide +kernel)) ggX7_credentials_X2_living
theorem dX7_credentials_0 : decode cX7_credentials 0 = .ok (.aload_n 0, 1) := by decide +kernel
theorem dX7_credentials_1 : decode cX7_credentials 1 = .ok (.getfield 33, 3) := by decide +kernel
theorem dX7_credentials_4 : decode cX7_credentials 4 = .ok (.invokevirtual 177, 3) := by decide +kernel
theorem dX7_credentials_7 : decode cX7_credentials 7 = .ok (.ireturn, 1) := by decide +kernel
set_option maxRecDepth 20000 in
theorem ggX7_credentialsOf_X7_checkToken : GoodIn wsX7_credentialsOf wsX7_checkToken := goodIn_ca (goodIn_r _ [6, 7, 8, 9, 10, 11, 12, 13, 14, 15, 16, 38, 39, 40, 41, 42, 43, 44, 45, 46, 47, 48, 49, 50, 51, 52, 53, 54, 55, 56, 57, 58, 59, 60] (by decide +kernel) (by decide +kernel)) (goodIn_sub (fun _ h => List.mem_cons_of_mem _ (List.mem_append_right _ h)) (by decide +kernel))
set_option maxRecDepth 20000 in
theorem gX7_credentialsOf_X7_checkToken : GoodIn wsX7_credentialsOf (wsV RX7 112 RX7 yX7_checkToken wsX7_checkToken) := goodIn_app (goodIn_of _ (by decide +kernel)) ggX7_credentialsOf_X7_checkToken
set_option maxRecDepth 20000 in
theorem ggX7_credentialsOf_X1_livingOf : GoodIn wsX7_credentialsOf wsX1_livingOf := goodIn_r _ [21, 22, 23, 24, 25, 26, 14, 27, 16, 28, 29, 30, 31, 32, 33, 34, 35, 36, 13, 15, 37, 44, 45, 46, 47, 48, 49, 50, 51, 52, 53, 54, 55, 56, 57, 58, 59, 60] (by decide +kernel) (by decide +kernel)
set_option maxRecDepth 20000 in
theorem gX7_credentialsOf_X1_livingOf : GoodIn wsX7_credentialsOf (wsV RX7 201 RX1 yX1_livingOf wsX1_livingOf) := goodIn_app (goodIn_of _ (by decide +kernel)) ggX7_credentialsOf_X1_livingOf
theorem dX7_credentialsOf_0 : decode cX7_credentialsOf 0 = .ok (.aload_n 0, 1) := by decide +kernel
theorem dX7_credentialsOf_1 : decode cX7_credentialsOf 1 = .ok (.iload_n 1, 1) := by decide +kernel
theorem dX7_credentialsOf_2 : decode cX7_credentialsOf 2 = .ok (.invokevirtual 112, 3) := by decide +kernel
theorem dX7_credentialsOf_5 : decode cX7_credentialsOf 5 = .ok (.aload_n 0, 1) := by decide +kernel
theorem dX7_credentialsOf_6 : decode cX7_credentialsOf 6 = .ok (.getfield 33, 3) := by decide +kernel
theorem dX7_credentialsOf_9 : decode cX7_credentialsOf 9 = .ok (.iload_n 1, 1) := by decide +kernel
theorem dX7_credentialsOf_10 : decode cX7_credentialsOf 10 = .ok (.invokevirtual 201, 3) := by decide +kernel
theorem dX7_credentialsOf_13 : decode cX7_credentialsOf 13 = .ok (.ireturn, 1) := by decide +kernel
set_option maxRecDepth 20000 in
theorem ggX7_pass_X7_checkRange : GoodIn wsX7_pass wsX7_checkRange := goodIn_ca (goodIn_r _ [8, 9, 10] (by decide +kernel) (by decide +kernel)) (goodIn_sub (fun _ h => List.mem_cons_of_mem _ (List.mem_append_right _ h)) (by decide +kernel))
set_option maxRecDepth 20000 in
theorem gX7_pass_X7_checkRange : GoodIn wsX7_pass (va_wsS RX7 77 yX7_checkRange wsX7_checkRange) := goodIn_app (goodIn_of _ (by decide +kernel)) ggX7_pass_X7_checkRange
set_option maxRecDepth 20000 in
theorem ggX7_pass_X2_endByTime : GoodIn wsX7_pass wsX2_endByTime := goodIn_r _ [16, 17, 18, 19, 20, 21, 22, 15, 23, 24, 25, 26, 27, 28, 29, 30, 31, 32, 33, 34, 35, 36, 37, 38, 98, 99, 100, 101, 102, 103, 104, 105, 106, 107, 108, 109, 110, 111, 112, 113, 114] (by decide +kernel) (by decide +kernel)
set_option maxRecDepth 20000 in
theorem gX7_pass_X2_endByTime_u204X6 : GoodIn wsX7_pass (va_wsU RX7 204 RX6 "SecretBroker$Leased" ⟨"SecretBroker$Tokens", "endByTime", "(I)I"⟩ yX2_endByTime wsX2_endByTime) := goodIn_app (goodIn_of _ (by decide +kernel)) ggX7_pass_X2_endByTime
set_option maxRecDepth 20000 in
theorem gX7_pass_X2_endByTime_u207X1 : GoodIn wsX7_pass (va_wsU RX7 207 RX1 "SecretBroker$Leased" ⟨"SecretBroker$Credentials", "endByTime", "(I)I"⟩ yX2_endByTime wsX2_endByTime) := goodIn_app (goodIn_of _ (by decide +kernel)) ggX7_pass_X2_endByTime
set_option maxRecDepth 20000 in
theorem ggX7_pass_X7_endWhatHungOnTokens : GoodIn wsX7_pass wsX7_endWhatHungOnTokens := goodIn_r _ [45, 2, 3, 46, 47, 48, 49, 50, 51, 52, 53, 54, 55, 15, 56, 17, 57, 58, 59, 29, 30, 24, 31, 32, 33, 34, 35, 36, 60, 61, 62, 22, 23, 25, 26, 27, 28, 37, 63, 64, 65, 66, 67, 68, 69, 70, 71, 72, 73, 74, 75, 92, 93, 94, 95, 96, 97, 106, 107, 108, 109, 110, 111, 112, 113, 114, 98, 99, 100, 101, 102, 103, 104, 105] (by decide +kernel) (by decide +kernel)
set_option maxRecDepth 20000 in
theorem gX7_pass_X7_endWhatHungOnTokens : GoodIn wsX7_pass (wsV RX7 208 RX7 yX7_endWhatHungOnTokens wsX7_endWhatHungOnTokens) := goodIn_app (goodIn_of _ (by decide +kernel)) ggX7_pass_X7_endWhatHungOnTokens
set_option maxRecDepth 20000 in
theorem ggX7_pass_X0_write : GoodIn wsX7_pass wsX0_write := goodIn_r _ [80, 81, 82, 83, 84, 85, 86, 87, 88, 89, 90, 91, 115, 116, 117, 118, 119] (by decide +kernel) (by decide +kernel)
set_option maxRecDepth 20000 in
theorem gX7_pass_X0_write : GoodIn wsX7_pass (wsV RX7 140 RX0 yX0_write wsX0_write) := goodIn_app (goodIn_of _ (by decide +kernel)) ggX7_pass_X0_write
theorem dX7_pass_0 : decode cX7_pass 0 = .ok (.iload_n 1, 1) := by decide +kernel
theorem dX7_pass_1 : decode cX7_pass 1 = .ok (.iconst 1, 1) := by decide +kernel
theorem dX7_pass_2 : decode cX7_pass 2 = .ok (.sipush 1000, 3) := by decide +kernel
theorem dX7_pass_5 : decode cX7_pass 5 = .ok (.invokestatic 77, 3) := by decide +kernel
theorem dX7_pass_8 : decode cX7_pass 8 = .ok (.aload_n 0, 1) := by decide +kernel
theorem dX7_pass_9 : decode cX7_pass 9 = .ok (.dup, 1) := by decide +kernel
theorem dX7_pass_10 : decode cX7_pass 10 = .ok (.getfield 44, 3) := by decide +kernel
theorem dX7_pass_13 : decode cX7_pass 13 = .ok (.iload_n 1, 1) := by decide +kernel
theorem dX7_pass_14 : decode cX7_pass 14 = .ok (.iadd, 1) := by decide +kernel
theorem dX7_pass_15 : decode cX7_pass 15 = .ok (.putfield 44, 3) := by decide +kernel
theorem dX7_pass_18 : decode cX7_pass 18 = .ok (.aload_n 0, 1) := by decide +kernel
theorem dX7_pass_19 : decode cX7_pass 19 = .ok (.getfield 26, 3) := by decide +kernel
theorem dX7_pass_22 : decode cX7_pass 22 = .ok (.aload_n 0, 1) := by decide +kernel
theorem dX7_pass_23 : decode cX7_pass 23 = .ok (.getfield 44, 3) := by decide +kernel
theorem dX7_pass_26 : decode cX7_pass 26 = .ok (.invokevirtual 204, 3) := by decide +kernel
theorem dX7_pass_29 : decode cX7_pass 29 = .ok (.aload_n 0, 1) := by decide +kernel
theorem dX7_pass_30 : decode cX7_pass 30 = .ok (.getfield 33, 3) := by decide +kernel
theorem dX7_pass_33 : decode cX7_pass 33 = .ok (.aload_n 0, 1) := by decide +kernel
theorem dX7_pass_34 : decode cX7_pass 34 = .ok (.getfield 44, 3) := by decide +kernel
theorem dX7_pass_37 : decode cX7_pass 37 = .ok (.invokevirtual 207, 3) := by decide +kernel
theorem dX7_pass_40 : decode cX7_pass 40 = .ok (.iadd, 1) := by decide +kernel
theorem dX7_pass_41 : decode cX7_pass 41 = .ok (.istore_n 2, 1) := by decide +kernel
theorem dX7_pass_42 : decode cX7_pass 42 = .ok (.iload_n 2, 1) := by decide +kernel
theorem dX7_pass_43 : decode cX7_pass 43 = .ok (.aload_n 0, 1) := by decide +kernel
theorem dX7_pass_44 : decode cX7_pass 44 = .ok (.invokevirtual 208, 3) := by decide +kernel
theorem dX7_pass_47 : decode cX7_pass 47 = .ok (.iadd, 1) := by decide +kernel
theorem dX7_pass_48 : decode cX7_pass 48 = .ok (.istore_n 2, 1) := by decide +kernel
theorem dX7_pass_49 : decode cX7_pass 49 = .ok (.iload_n 2, 1) := by decide +kernel
theorem dX7_pass_50 : decode cX7_pass 50 = .ok (.ifCond .le 17, 3) := by decide +kernel
theorem dX7_pass_53 : decode cX7_pass 53 = .ok (.aload_n 0, 1) := by decide +kernel
theorem dX7_pass_54 : decode cX7_pass 54 = .ok (.getfield 40, 3) := by decide +kernel
theorem dX7_pass_57 : decode cX7_pass 57 = .ok (.iconst 5, 1) := by decide +kernel
theorem dX7_pass_58 : decode cX7_pass 58 = .ok (.iconst 0, 1) := by decide +kernel
theorem dX7_pass_59 : decode cX7_pass 59 = .ok (.iload_n 2, 1) := by decide +kernel
theorem dX7_pass_60 : decode cX7_pass 60 = .ok (.aload_n 0, 1) := by decide +kernel
theorem dX7_pass_61 : decode cX7_pass 61 = .ok (.getfield 44, 3) := by decide +kernel
theorem dX7_pass_64 : decode cX7_pass 64 = .ok (.invokevirtual 140, 3) := by decide +kernel
theorem dX7_pass_67 : decode cX7_pass 67 = .ok (.iload_n 2, 1) := by decide +kernel
theorem dX7_pass_68 : decode cX7_pass 68 = .ok (.ireturn, 1) := by decide +kernel
theorem dX7_time_0 : decode cX7_time 0 = .ok (.aload_n 0, 1) := by decide +kernel
theorem dX7_time_1 : decode cX7_time 1 = .ok (.getfield 44, 3) := by decide +kernel
theorem dX7_time_4 : decode cX7_time 4 = .ok (.ireturn, 1) := by decide +kernel
set_option maxRecDepth 20000 in
theorem ggX7_nextEnd_X2_firstEnd : GoodIn wsX7_nextEnd wsX2_firstEnd := goodIn_r _ [15, 16, 17, 18, 28, 29, 30, 31, 32, 33, 34, 35, 36, 37, 38, 39, 40, 41, 42, 43, 44] (by decide +kernel) (by decide +kernel)
set_option maxRecDepth 20000 in
theorem gX7_nextEnd_X2_firstEnd_u211X6 : GoodIn wsX7_nextEnd (va_wsU RX7 211 RX6 "SecretBroker$Leased" ⟨"SecretBroker$Tokens", "firstEnd", "()I"⟩ yX2_firstEnd wsX2_firstEnd) := goodIn_app (goodIn_of _ (by decide +kernel)) ggX7_nextEnd_X2_firstEnd
set_option maxRecDepth 20000 in
theorem gX7_nextEnd_X2_firstEnd_u214X1 : GoodIn wsX7_nextEnd (va_wsU RX7 214 RX1 "SecretBroker$Leased" ⟨"SecretBroker$Credentials", "firstEnd", "()I"⟩ yX2_firstEnd wsX2_firstEnd) := goodIn_app (goodIn_of _ (by decide +kernel)) ggX7_nextEnd_X2_firstEnd
theorem dX7_nextEnd_0 : decode cX7_nextEnd 0 = .ok (.aload_n 0, 1) := by decide +kernel
theorem dX7_nextEnd_1 : decode cX7_nextEnd 1 = .ok (.getfield 26, 3) := by decide +kernel
theorem dX7_nextEnd_4 : decode cX7_nextEnd 4 = .ok (.invokevirtual 211, 3) := by decide +kernel
theorem dX7_nextEnd_7 : decode cX7_nextEnd 7 = .ok (.istore_n 1, 1) := by decide +kernel
theorem dX7_nextEnd_8 : decode cX7_nextEnd 8 = .ok (.aload_n 0, 1) := by decide +kernel
theorem dX7_nextEnd_9 : decode cX7_nextEnd 9 = .ok (.getfield 33, 3) := by decide +kernel
theorem dX7_nextEnd_12 : decode cX7_nextEnd 12 = .ok (.invokevirtual 214, 3) := by decide +kernel
theorem dX7_nextEnd_15 : decode cX7_nextEnd 15 = .ok (.istore_n 2, 1) := by decide +kernel
theorem dX7_nextEnd_16 : decode cX7_nextEnd 16 = .ok (.iload_n 1, 1) := by decide +kernel
theorem dX7_nextEnd_17 : decode cX7_nextEnd 17 = .ok (.iconst (-1), 1) := by decide +kernel
theorem dX7_nextEnd_18 : decode cX7_nextEnd 18 = .ok (.if_icmp .eq 8, 3) := by decide +kernel
theorem dX7_nextEnd_21 : decode cX7_nextEnd 21 = .ok (.iload_n 2, 1) := by decide +kernel
theorem dX7_nextEnd_22 : decode cX7_nextEnd 22 = .ok (.iconst (-1), 1) := by decide +kernel
theorem dX7_nextEnd_23 : decode cX7_nextEnd 23 = .ok (.if_icmp .ne 9, 3) := by decide +kernel
theorem dX7_nextEnd_26 : decode cX7_nextEnd 26 = .ok (.iload_n 1, 1) := by decide +kernel
theorem dX7_nextEnd_27 : decode cX7_nextEnd 27 = .ok (.iload_n 2, 1) := by decide +kernel
theorem dX7_nextEnd_28 : decode cX7_nextEnd 28 = .ok (.invokestatic 215, 3) := by decide +kernel
theorem dX7_nextEnd_31 : decode cX7_nextEnd 31 = .ok (.ireturn, 1) := by decide +kernel
theorem dX7_nextEnd_32 : decode cX7_nextEnd 32 = .ok (.iload_n 1, 1) := by decide +kernel
theorem dX7_nextEnd_33 : decode cX7_nextEnd 33 = .ok (.iload_n 2, 1) := by decide +kernel
theorem dX7_nextEnd_34 : decode cX7_nextEnd 34 = .ok (.invokestatic 220, 3) := by decide +kernel
theorem dX7_nextEnd_37 : decode cX7_nextEnd 37 = .ok (.ireturn, 1) := by decide +kernel
set_option maxRecDepth 20000 in
theorem ggX7_entries_X0_count : GoodIn wsX7_entries wsX0_count := goodIn_r _ [6, 7, 14, 15, 16, 17, 18] (by decide +kernel) (by decide +kernel)
set_option maxRecDepth 20000 in
theorem gX7_entries_X0_count : GoodIn wsX7_entries (wsV RX7 223 RX0 yX0_count wsX0_count) := goodIn_app (goodIn_of _ (by decide +kernel)) ggX7_entries_X0_count
theorem dX7_entries_0 : decode cX7_entries 0 = .ok (.aload_n 0, 1) := by decide +kernel
theorem dX7_entries_1 : decode cX7_entries 1 = .ok (.getfield 40, 3) := by decide +kernel
theorem dX7_entries_4 : decode cX7_entries 4 = .ok (.invokevirtual 223, 3) := by decide +kernel
theorem dX7_entries_7 : decode cX7_entries 7 = .ok (.ireturn, 1) := by decide +kernel
set_option maxRecDepth 20000 in
theorem ggX7_kindOf_X7_checkEntry : GoodIn wsX7_kindOf wsX7_checkEntry := goodIn_ca (goodIn_r _ [6, 7, 8, 1, 9, 10, 11, 12, 13, 14, 21, 22, 23, 24, 25, 26, 27, 28, 29, 30, 31] (by decide +kernel) (by decide +kernel)) (goodIn_sub (fun _ h => List.mem_cons_of_mem _ (List.mem_append_right _ h)) (by decide +kernel))
set_option maxRecDepth 20000 in
theorem gX7_kindOf_X7_checkEntry : GoodIn wsX7_kindOf (wsV RX7 224 RX7 yX7_checkEntry wsX7_checkEntry) := goodIn_app (goodIn_of _ (by decide +kernel)) ggX7_kindOf_X7_checkEntry
set_option maxRecDepth 20000 in
theorem ggX7_kindOf_X0_kindAt : GoodIn wsX7_kindOf wsX0_kindAt := goodIn_r _ [18, 19, 20, 10, 11, 12, 13, 14, 27, 28, 29, 30, 31] (by decide +kernel) (by decide +kernel)
set_option maxRecDepth 20000 in
theorem gX7_kindOf_X0_kindAt : GoodIn wsX7_kindOf (wsV RX7 227 RX0 yX0_kindAt wsX0_kindAt) := goodIn_app (goodIn_of _ (by decide +kernel)) ggX7_kindOf_X0_kindAt
theorem dX7_kindOf_0 : decode cX7_kindOf 0 = .ok (.aload_n 0, 1) := by decide +kernel
theorem dX7_kindOf_1 : decode cX7_kindOf 1 = .ok (.iload_n 1, 1) := by decide +kernel
theorem dX7_kindOf_2 : decode cX7_kindOf 2 = .ok (.invokevirtual 224, 3) := by decide +kernel
theorem dX7_kindOf_5 : decode cX7_kindOf 5 = .ok (.aload_n 0, 1) := by decide +kernel
theorem dX7_kindOf_6 : decode cX7_kindOf 6 = .ok (.getfield 40, 3) := by decide +kernel
theorem dX7_kindOf_9 : decode cX7_kindOf 9 = .ok (.iload_n 1, 1) := by decide +kernel
theorem dX7_kindOf_10 : decode cX7_kindOf 10 = .ok (.invokevirtual 227, 3) := by decide +kernel
theorem dX7_kindOf_13 : decode cX7_kindOf 13 = .ok (.ireturn, 1) := by decide +kernel
set_option maxRecDepth 20000 in
theorem ggX7_subjectOf_X7_checkEntry : GoodIn wsX7_subjectOf wsX7_checkEntry := goodIn_ca (goodIn_r _ [6, 7, 8, 1, 9, 10, 11, 12, 13, 14, 21, 22, 23, 24, 25, 26, 27, 28, 29, 30, 31] (by decide +kernel) (by decide +kernel)) (goodIn_sub (fun _ h => List.mem_cons_of_mem _ (List.mem_append_right _ h)) (by decide +kernel))
set_option maxRecDepth 20000 in
theorem gX7_subjectOf_X7_checkEntry : GoodIn wsX7_subjectOf (wsV RX7 224 RX7 yX7_checkEntry wsX7_checkEntry) := goodIn_app (goodIn_of _ (by decide +kernel)) ggX7_subjectOf_X7_checkEntry
set_option maxRecDepth 20000 in
theorem ggX7_subjectOf_X0_subjectAt : GoodIn wsX7_subjectOf wsX0_subjectAt := goodIn_r _ [18, 19, 20, 10, 11, 12, 13, 14, 27, 28, 29, 30, 31] (by decide +kernel) (by decide +kernel)
set_option maxRecDepth 20000 in
theorem gX7_subjectOf_X0_subjectAt : GoodIn wsX7_subjectOf (wsV RX7 230 RX0 yX0_subjectAt wsX0_subjectAt) := goodIn_app (goodIn_of _ (by decide +kernel)) ggX7_subjectOf_X0_subjectAt
theorem dX7_subjectOf_0 : decode cX7_subjectOf 0 = .ok (.aload_n 0, 1) := by decide +kernel
theorem dX7_subjectOf_1 : decode cX7_subjectOf 1 = .ok (.iload_n 1, 1) := by decide +kernel
theorem dX7_subjectOf_2 : decode cX7_subjectOf 2 = .ok (.invokevirtual 224, 3) := by decide +kernel
theorem dX7_subjectOf_5 : decode cX7_subjectOf 5 = .ok (.aload_n 0, 1) := by decide +kernel
theorem dX7_subjectOf_6 : decode cX7_subjectOf 6 = .ok (.getfield 40, 3) := by decide +kernel
theorem dX7_subjectOf_9 : decode cX7_subjectOf 9 = .ok (.iload_n 1, 1) := by decide +kernel
theorem dX7_subjectOf_10 : decode cX7_subjectOf 10 = .ok (.invokevirtual 230, 3) := by decide +kernel
theorem dX7_subjectOf_13 : decode cX7_subjectOf 13 = .ok (.ireturn, 1) := by decide +kernel
set_option maxRecDepth 20000 in
theorem ggX7_detailOf_X7_checkEntry : GoodIn wsX7_detailOf wsX7_checkEntry := goodIn_ca (goodIn_r _ [6, 7, 8, 1, 9, 10, 11, 12, 13, 14, 21, 22, 23, 24, 25, 26, 27, 28, 29, 30, 31] (by decide +kernel) (by decide +kernel)) (goodIn_sub (fun _ h => List.mem_cons_of_mem _ (List.mem_append_right _ h)) (by decide +kernel))
set_option maxRecDepth 20000 in
theorem gX7_detailOf_X7_checkEntry : GoodIn wsX7_detailOf (wsV RX7 224 RX7 yX7_checkEntry wsX7_checkEntry) := goodIn_app (goodIn_of _ (by decide +kernel)) ggX7_detailOf_X7_checkEntry
set_option maxRecDepth 20000 in
theorem ggX7_detailOf_X0_detailAt : GoodIn wsX7_detailOf wsX0_detailAt := goodIn_r _ [18, 19, 20, 10, 11, 12, 13, 14, 27, 28, 29, 30, 31] (by decide +kernel) (by decide +kernel)
set_option maxRecDepth 20000 in
theorem gX7_detailOf_X0_detailAt : GoodIn wsX7_detailOf (wsV RX7 233 RX0 yX0_detailAt wsX0_detailAt) := goodIn_app (goodIn_of _ (by decide +kernel)) ggX7_detailOf_X0_detailAt
theorem dX7_detailOf_0 : decode cX7_detailOf 0 = .ok (.aload_n 0, 1) := by decide +kernel
theorem dX7_detailOf_1 : decode cX7_detailOf 1 = .ok (.iload_n 1, 1) := by decide +kernel
theorem dX7_detailOf_2 : decode cX7_detailOf 2 = .ok (.invokevirtual 224, 3) := by decide +kernel
theorem dX7_detailOf_5 : decode cX7_detailOf 5 = .ok (.aload_n 0, 1) := by decide +kernel
theorem dX7_detailOf_6 : decode cX7_detailOf 6 = .ok (.getfield 40, 3) := by decide +kernel
theorem dX7_detailOf_9 : decode cX7_detailOf 9 = .ok (.iload_n 1, 1) := by decide +kernel
theorem dX7_detailOf_10 : decode cX7_detailOf 10 = .ok (.invokevirtual 233, 3) := by decide +kernel
theorem dX7_detailOf_13 : decode cX7_detailOf 13 = .ok (.ireturn, 1) := by decide +kernel
set_option maxRecDepth 20000 in
theorem ggX7_sumOf_X7_checkEntry : GoodIn wsX7_sumOf wsX7_checkEntry := goodIn_ca (goodIn_r _ [6, 7, 8, 1, 9, 10, 11, 12, 13, 14, 21, 22, 23, 24, 25, 26, 27, 28, 29, 30, 31] (by decide +kernel) (by decide +kernel)) (goodIn_sub (fun _ h => List.mem_cons_of_mem _ (List.mem_append_right _ h)) (by decide +kernel))
set_option maxRecDepth 20000 in
theorem gX7_sumOf_X7_checkEntry : GoodIn wsX7_sumOf (wsV RX7 224 RX7 yX7_checkEntry wsX7_checkEntry) := goodIn_app (goodIn_of _ (by decide +kernel)) ggX7_sumOf_X7_checkEntry
set_option maxRecDepth 20000 in
theorem ggX7_sumOf_X0_sumAt : GoodIn wsX7_sumOf wsX0_sumAt := goodIn_r _ [18, 19, 20, 10, 11, 12, 13, 14, 27, 28, 29, 30, 31] (by decide +kernel) (by decide +kernel)
set_option maxRecDepth 20000 in
theorem gX7_sumOf_X0_sumAt : GoodIn wsX7_sumOf (wsV RX7 236 RX0 yX0_sumAt wsX0_sumAt) := goodIn_app (goodIn_of _ (by decide +kernel)) ggX7_sumOf_X0_sumAt
theorem dX7_sumOf_0 : decode cX7_sumOf 0 = .ok (.aload_n 0, 1) := by decide +kernel
theorem dX7_sumOf_1 : decode cX7_sumOf 1 = .ok (.iload_n 1, 1) := by decide +kernel
theorem dX7_sumOf_2 : decode cX7_sumOf 2 = .ok (.invokevirtual 224, 3) := by decide +kernel
theorem dX7_sumOf_5 : decode cX7_sumOf 5 = .ok (.aload_n 0, 1) := by decide +kernel
theorem dX7_sumOf_6 : decode cX7_sumOf 6 = .ok (.getfield 40, 3) := by decide +kernel
theorem dX7_sumOf_9 : decode cX7_sumOf 9 = .ok (.iload_n 1, 1) := by decide +kernel
theorem dX7_sumOf_10 : decode cX7_sumOf 10 = .ok (.invokevirtual 236, 3) := by decide +kernel
theorem dX7_sumOf_13 : decode cX7_sumOf 13 = .ok (.lreturn, 1) := by decide +kernel
set_option maxRecDepth 20000 in
theorem ggX7_checkPolicy_X5_has : GoodIn wsX7_checkPolicy wsX5_has := goodIn_r _ [8, 9, 16, 17, 18, 19, 20] (by decide +kernel) (by decide +kernel)
set_option maxRecDepth 20000 in
theorem gX7_checkPolicy_X5_has : GoodIn wsX7_checkPolicy (wsV RX7 240 RX5 yX5_has wsX5_has) := goodIn_app (goodIn_of _ (by decide +kernel)) ggX7_checkPolicy_X5_has
theorem dX7_checkPolicy_0 : decode cX7_checkPolicy 0 = .ok (.aload_n 0, 1) := by decide +kernel
theorem dX7_checkPolicy_1 : decode cX7_checkPolicy 1 = .ok (.getfield 10, 3) := by decide +kernel
theorem dX7_checkPolicy_4 : decode cX7_checkPolicy 4 = .ok (.iload_n 1, 1) := by decide +kernel
theorem dX7_checkPolicy_5 : decode cX7_checkPolicy 5 = .ok (.invokevirtual 240, 3) := by decide +kernel
theorem dX7_checkPolicy_8 : decode cX7_checkPolicy 8 = .ok (.ifCond .ne 13, 3) := by decide +kernel
theorem dX7_checkPolicy_11 : decode cX7_checkPolicy 11 = .ok (.new 243, 3) := by decide +kernel
theorem dX7_checkPolicy_14 : decode cX7_checkPolicy 14 = .ok (.dup, 1) := by decide +kernel
theorem dX7_checkPolicy_15 : decode cX7_checkPolicy 15 = .ok (.ldc 245, 2) := by decide +kernel
theorem dX7_checkPolicy_17 : decode cX7_checkPolicy 17 = .ok (.invokespecial 247, 3) := by decide +kernel
theorem dX7_checkPolicy_20 : decode cX7_checkPolicy 20 = .ok (.athrow, 1) := by decide +kernel
theorem dX7_checkPolicy_21 : decode cX7_checkPolicy 21 = .ok (.return_, 1) := by decide +kernel
set_option maxRecDepth 20000 in
theorem ggX7_checkToken_X2_has : GoodIn wsX7_checkToken wsX2_has := goodIn_r _ [9, 10, 17, 18, 19, 20, 21, 22, 23, 24, 25, 26, 27, 28, 29, 30, 31, 32, 33] (by decide +kernel) (by decide +kernel)
set_option maxRecDepth 20000 in
theorem gX7_checkToken_X2_has_u248X6 : GoodIn wsX7_checkToken (va_wsU RX7 248 RX6 "SecretBroker$Leased" ⟨"SecretBroker$Tokens", "has", "(I)Z"⟩ yX2_has wsX2_has) := goodIn_app (goodIn_of _ (by decide +kernel)) ggX7_checkToken_X2_has
theorem dX7_checkToken_0 : decode cX7_checkToken 0 = .ok (.aload_n 0, 1) := by decide +kernel
theorem dX7_checkToken_1 : decode cX7_checkToken 1 = .ok (.getfield 26, 3) := by decide +kernel
theorem dX7_checkToken_4 : decode cX7_checkToken 4 = .ok (.iload_n 1, 1) := by decide +kernel
theorem dX7_checkToken_5 : decode cX7_checkToken 5 = .ok (.invokevirtual 248, 3) := by decide +kernel
theorem dX7_checkToken_8 : decode cX7_checkToken 8 = .ok (.ifCond .ne 13, 3) := by decide +kernel
theorem dX7_checkToken_11 : decode cX7_checkToken 11 = .ok (.new 243, 3) := by decide +kernel
theorem dX7_checkToken_14 : decode cX7_checkToken 14 = .ok (.dup, 1) := by decide +kernel
theorem dX7_checkToken_15 : decode cX7_checkToken 15 = .ok (.ldc 249, 2) := by decide +kernel
theorem dX7_checkToken_17 : decode cX7_checkToken 17 = .ok (.invokespecial 247, 3) := by decide +kernel
theorem dX7_checkToken_20 : decode cX7_checkToken 20 = .ok (.athrow, 1) := by decide +kernel
theorem dX7_checkToken_21 : decode cX7_checkToken 21 = .ok (.return_, 1) := by decide +kernel
set_option maxRecDepth 20000 in
theorem ggX7_checkCredential_X2_has : GoodIn wsX7_checkCredential wsX2_has := goodIn_r _ [9, 10, 17, 18, 19, 20, 21, 22, 23, 24, 25, 26, 27, 28, 29, 30, 31, 32, 33] (by decide +kernel) (by decide +kernel)
set_option maxRecDepth 20000 in
theorem gX7_checkCredential_X2_has_u251X1 : GoodIn wsX7_checkCredential (va_wsU RX7 251 RX1 "SecretBroker$Leased" ⟨"SecretBroker$Credentials", "has", "(I)Z"⟩ yX2_has wsX2_has) := goodIn_app (goodIn_of _ (by decide +kernel)) ggX7_checkCredential_X2_has
theorem dX7_checkCredential_0 : decode cX7_checkCredential 0 = .ok (.aload_n 0, 1) := by decide +kernel
theorem dX7_checkCredential_1 : decode cX7_checkCredential 1 = .ok (.getfield 33, 3) := by decide +kernel
theorem dX7_checkCredential_4 : decode cX7_checkCredential 4 = .ok (.iload_n 1, 1) := by decide +kernel
theorem dX7_checkCredential_5 : decode cX7_checkCredential 5 = .ok (.invokevirtual 251, 3) := by decide +kernel
theorem dX7_checkCredential_8 : decode cX7_checkCredential 8 = .ok (.ifCond .ne 13, 3) := by decide +kernel
theorem dX7_checkCredential_11 : decode cX7_checkCredential 11 = .ok (.new 243, 3) := by decide +kernel
theorem dX7_checkCredential_14 : decode cX7_checkCredential 14 = .ok (.dup, 1) := by decide +kernel
theorem dX7_checkCredential_15 : decode cX7_checkCredential 15 = .ok (.ldc 252, 2) := by decide +kernel
theorem dX7_checkCredential_17 : decode cX7_checkCredential 17 = .ok (.invokespecial 247, 3) := by decide +kernel
theorem dX7_checkCredential_20 : decode cX7_checkCredential 20 = .ok (.athrow, 1) := by decide +kernel
theorem dX7_checkCredential_21 : decode cX7_checkCredential 21 = .ok (.return_, 1) := by decide +kernel
set_option maxRecDepth 20000 in
theorem ggX7_checkEntry_X0_has : GoodIn wsX7_checkEntry wsX0_has := goodIn_r _ [8, 9, 16, 17, 18, 19, 20] (by decide +kernel) (by decide +kernel)
set_option maxRecDepth 20000 in
theorem gX7_checkEntry_X0_has : GoodIn wsX7_checkEntry (wsV RX7 254 RX0 yX0_has wsX0_has) := goodIn_app (goodIn_of _ (by decide +kernel)) ggX7_checkEntry_X0_has
theorem dX7_checkEntry_0 : decode cX7_checkEntry 0 = .ok (.aload_n 0, 1) := by decide +kernel
theorem dX7_checkEntry_1 : decode cX7_checkEntry 1 = .ok (.getfield 40, 3) := by decide +kernel
theorem dX7_checkEntry_4 : decode cX7_checkEntry 4 = .ok (.iload_n 1, 1) := by decide +kernel
theorem dX7_checkEntry_5 : decode cX7_checkEntry 5 = .ok (.invokevirtual 254, 3) := by decide +kernel
theorem dX7_checkEntry_8 : decode cX7_checkEntry 8 = .ok (.ifCond .ne 13, 3) := by decide +kernel
theorem dX7_checkEntry_11 : decode cX7_checkEntry 11 = .ok (.new 243, 3) := by decide +kernel
theorem dX7_checkEntry_14 : decode cX7_checkEntry 14 = .ok (.dup, 1) := by decide +kernel
theorem dX7_checkEntry_15 : decode cX7_checkEntry 15 = .ok (.ldc 255, 2) := by decide +kernel
theorem dX7_checkEntry_17 : decode cX7_checkEntry 17 = .ok (.invokespecial 247, 3) := by decide +kernel
theorem dX7_checkEntry_20 : decode cX7_checkEntry 20 = .ok (.athrow, 1) := by decide +kernel
theorem dX7_checkEntry_21 : decode cX7_checkEntry 21 = .ok (.return_, 1) := by decide +kernel
set_option maxRecDepth 20000 in
theorem ggX7_checkAliveToken_X2_isOn : GoodIn wsX7_checkAliveToken wsX2_isOn := goodIn_r _ [9, 10, 11, 12, 13, 14, 8, 15, 16, 17, 24, 25, 26, 27, 28, 29, 30, 31, 32, 33, 34, 35, 36, 37, 38, 39, 40] (by decide +kernel) (by decide +kernel)
set_option maxRecDepth 20000 in
theorem gX7_checkAliveToken_X2_isOn_u158X6 : GoodIn wsX7_checkAliveToken (va_wsU RX7 158 RX6 "SecretBroker$Leased" ⟨"SecretBroker$Tokens", "isOn", "(I)Z"⟩ yX2_isOn wsX2_isOn) := goodIn_app (goodIn_of _ (by decide +kernel)) ggX7_checkAliveToken_X2_isOn
theorem dX7_checkAliveToken_0 : decode cX7_checkAliveToken 0 = .ok (.aload_n 0, 1) := by decide +kernel
theorem dX7_checkAliveToken_1 : decode cX7_checkAliveToken 1 = .ok (.getfield 26, 3) := by decide +kernel
theorem dX7_checkAliveToken_4 : decode cX7_checkAliveToken 4 = .ok (.iload_n 1, 1) := by decide +kernel
theorem dX7_checkAliveToken_5 : decode cX7_checkAliveToken 5 = .ok (.invokevirtual 158, 3) := by decide +kernel
theorem dX7_checkAliveToken_8 : decode cX7_checkAliveToken 8 = .ok (.ifCond .ne 14, 3) := by decide +kernel
theorem dX7_checkAliveToken_11 : decode cX7_checkAliveToken 11 = .ok (.new 52, 3) := by decide +kernel
theorem dX7_checkAliveToken_14 : decode cX7_checkAliveToken 14 = .ok (.dup, 1) := by decide +kernel
theorem dX7_checkAliveToken_15 : decode cX7_checkAliveToken 15 = .ok (.ldc_w 257, 3) := by decide +kernel
theorem dX7_checkAliveToken_18 : decode cX7_checkAliveToken 18 = .ok (.invokespecial 56, 3) := by decide +kernel
theorem dX7_checkAliveToken_21 : decode cX7_checkAliveToken 21 = .ok (.athrow, 1) := by decide +kernel
theorem dX7_checkAliveToken_22 : decode cX7_checkAliveToken 22 = .ok (.return_, 1) := by decide +kernel
set_option maxRecDepth 20000 in
theorem ggX7_checkEndingToken_X7_checkAliveToken : GoodIn wsX7_checkEndingToken wsX7_checkAliveToken := goodIn_ca (goodIn_r _ [7, 1, 2, 8, 9, 10, 11, 12, 13, 14, 15, 16, 17, 18, 19, 20, 21, 22, 23, 24, 25, 26, 27, 28, 29, 30, 31, 32, 33, 34, 35, 36, 37, 38, 39, 40, 41, 42, 43, 44, 45] (by decide +kernel) (by decide +kernel)) (goodIn_sub (fun _ h => List.mem_cons_of_mem _ (List.mem_append_right _ h)) (by decide +kernel))
set_option maxRecDepth 20000 in
theorem gX7_checkEndingToken_X7_checkAliveToken : GoodIn wsX7_checkEndingToken (wsV RX7 121 RX7 yX7_checkAliveToken wsX7_checkAliveToken) := goodIn_app (goodIn_of _ (by decide +kernel)) ggX7_checkEndingToken_X7_checkAliveToken
theorem dX7_checkEndingToken_0 : decode cX7_checkEndingToken 0 = .ok (.iload_n 1, 1) := by decide +kernel
theorem dX7_checkEndingToken_1 : decode cX7_checkEndingToken 1 = .ok (.ifCond .ne 14, 3) := by decide +kernel
theorem dX7_checkEndingToken_4 : decode cX7_checkEndingToken 4 = .ok (.new 52, 3) := by decide +kernel
theorem dX7_checkEndingToken_7 : decode cX7_checkEndingToken 7 = .ok (.dup, 1) := by decide +kernel
theorem dX7_checkEndingToken_8 : decode cX7_checkEndingToken 8 = .ok (.ldc_w 259, 3) := by decide +kernel
theorem dX7_checkEndingToken_11 : decode cX7_checkEndingToken 11 = .ok (.invokespecial 56, 3) := by decide +kernel
theorem dX7_checkEndingToken_14 : decode cX7_checkEndingToken 14 = .ok (.athrow, 1) := by decide +kernel
theorem dX7_checkEndingToken_15 : decode cX7_checkEndingToken 15 = .ok (.aload_n 0, 1) := by decide +kernel
theorem dX7_checkEndingToken_16 : decode cX7_checkEndingToken 16 = .ok (.iload_n 1, 1) := by decide +kernel
theorem dX7_checkEndingToken_17 : decode cX7_checkEndingToken 17 = .ok (.invokevirtual 121, 3) := by decide +kernel
theorem dX7_checkEndingToken_20 : decode cX7_checkEndingToken 20 = .ok (.return_, 1) := by decide +kernel
set_option maxRecDepth 20000 in
theorem ggX7_checkPath_X4_isPath : GoodIn wsX7_checkPath wsX4_isPath := goodIn_r _ [6, 7, 8, 5, 9, 10] (by decide +kernel) (by decide +kernel)
set_option maxRecDepth 20000 in
theorem gX7_checkPath_X4_isPath : GoodIn wsX7_checkPath (va_wsS RX7 261 yX4_isPath wsX4_isPath) := goodIn_app (goodIn_of _ (by decide +kernel)) ggX7_checkPath_X4_isPath
theorem dX7_checkPath_0 : decode cX7_checkPath 0 = .ok (.iload_n 0, 1) := by decide +kernel
theorem dX7_checkPath_1 : decode cX7_checkPath 1 = .ok (.invokestatic 261, 3) := by decide +kernel
theorem dX7_checkPath_4 : decode cX7_checkPath 4 = .ok (.ifCond .ne 14, 3) := by decide +kernel
theorem dX7_checkPath_7 : decode cX7_checkPath 7 = .ok (.new 72, 3) := by decide +kernel
theorem dX7_checkPath_10 : decode cX7_checkPath 10 = .ok (.dup, 1) := by decide +kernel
theorem dX7_checkPath_11 : decode cX7_checkPath 11 = .ok (.ldc_w 264, 3) := by decide +kernel
theorem dX7_checkPath_14 : decode cX7_checkPath 14 = .ok (.invokespecial 76, 3) := by decide +kernel
theorem dX7_checkPath_17 : decode cX7_checkPath 17 = .ok (.athrow, 1) := by decide +kernel
theorem dX7_checkPath_18 : decode cX7_checkPath 18 = .ok (.return_, 1) := by decide +kernel
set_option maxRecDepth 20000 in
theorem ggX7_checkLease_X7_checkRange : GoodIn wsX7_checkLease wsX7_checkRange := goodIn_ca (goodIn_r _ [4, 5, 6] (by decide +kernel) (by decide +kernel)) (goodIn_sub (fun _ h => List.mem_cons_of_mem _ (List.mem_append_right _ h)) (by decide +kernel))
set_option maxRecDepth 20000 in
theorem gX7_checkLease_X7_checkRange : GoodIn wsX7_checkLease (va_wsS RX7 77 yX7_checkRange wsX7_checkRange) := goodIn_app (goodIn_of _ (by decide +kernel)) ggX7_checkLease_X7_checkRange
theorem dX7_checkLease_0 : decode cX7_checkLease 0 = .ok (.iload_n 0, 1) := by decide +kernel
theorem dX7_checkLease_1 : decode cX7_checkLease 1 = .ok (.iconst 1, 1) := by decide +kernel
theorem dX7_checkLease_2 : decode cX7_checkLease 2 = .ok (.sipush 1000, 3) := by decide +kernel
theorem dX7_checkLease_5 : decode cX7_checkLease 5 = .ok (.invokestatic 77, 3) := by decide +kernel
theorem dX7_checkLease_8 : decode cX7_checkLease 8 = .ok (.iload_n 1, 1) := by decide +kernel
theorem dX7_checkLease_9 : decode cX7_checkLease 9 = .ok (.iload_n 0, 1) := by decide +kernel
theorem dX7_checkLease_10 : decode cX7_checkLease 10 = .ok (.sipush 5000, 3) := by decide +kernel
theorem dX7_checkLease_13 : decode cX7_checkLease 13 = .ok (.invokestatic 77, 3) := by decide +kernel
theorem dX7_checkLease_16 : decode cX7_checkLease 16 = .ok (.return_, 1) := by decide +kernel
theorem dX7_checkRange_0 : decode cX7_checkRange 0 = .ok (.iload_n 0, 1) := by decide +kernel
theorem dX7_checkRange_1 : decode cX7_checkRange 1 = .ok (.iload_n 1, 1) := by decide +kernel
theorem dX7_checkRange_2 : decode cX7_checkRange 2 = .ok (.if_icmp .lt 8, 3) := by decide +kernel
theorem dX7_checkRange_5 : decode cX7_checkRange 5 = .ok (.iload_n 0, 1) := by decide +kernel
theorem dX7_checkRange_6 : decode cX7_checkRange 6 = .ok (.iload_n 2, 1) := by decide +kernel
theorem dX7_checkRange_7 : decode cX7_checkRange 7 = .ok (.if_icmp .le 14, 3) := by decide +kernel
theorem dX7_checkRange_10 : decode cX7_checkRange 10 = .ok (.new 72, 3) := by decide +kernel
theorem dX7_checkRange_13 : decode cX7_checkRange 13 = .ok (.dup, 1) := by decide +kernel
theorem dX7_checkRange_14 : decode cX7_checkRange 14 = .ok (.ldc_w 266, 3) := by decide +kernel
theorem dX7_checkRange_17 : decode cX7_checkRange 17 = .ok (.invokespecial 76, 3) := by decide +kernel
theorem dX7_checkRange_20 : decode cX7_checkRange 20 = .ok (.athrow, 1) := by decide +kernel
theorem dX7_checkRange_21 : decode cX7_checkRange 21 = .ok (.return_, 1) := by decide +kernel
set_option maxRecDepth 20000 in
theorem ggX7_mayHand_X5_hasAll : GoodIn wsX7_mayHand wsX5_hasAll := goodIn_r _ [7, 8, 28, 29, 30, 31, 32] (by decide +kernel) (by decide +kernel)
set_option maxRecDepth 20000 in
theorem gX7_mayHand_X5_hasAll : GoodIn wsX7_mayHand (wsV RX7 268 RX5 yX5_hasAll wsX5_hasAll) := goodIn_app (goodIn_of _ (by decide +kernel)) ggX7_mayHand_X5_hasAll
set_option maxRecDepth 20000 in
theorem ggX7_mayHand_X6_policiesAt : GoodIn wsX7_mayHand wsX6_policiesAt := goodIn_r _ [13, 14, 15, 16, 17, 18, 19, 20, 21, 33, 34, 35, 36, 37, 38, 39, 40, 41, 42, 43, 44, 45, 46, 47, 48, 49] (by decide +kernel) (by decide +kernel)
set_option maxRecDepth 20000 in
theorem gX7_mayHand_X6_policiesAt : GoodIn wsX7_mayHand (wsV RX7 271 RX6 yX6_policiesAt wsX6_policiesAt) := goodIn_app (goodIn_of _ (by decide +kernel)) ggX7_mayHand_X6_policiesAt
theorem dX7_mayHand_0 : decode cX7_mayHand 0 = .ok (.aload_n 0, 1) := by decide +kernel
theorem dX7_mayHand_1 : decode cX7_mayHand 1 = .ok (.getfield 10, 3) := by decide +kernel
theorem dX7_mayHand_4 : decode cX7_mayHand 4 = .ok (.iload_n 2, 1) := by decide +kernel
theorem dX7_mayHand_5 : decode cX7_mayHand 5 = .ok (.invokevirtual 268, 3) := by decide +kernel
theorem dX7_mayHand_8 : decode cX7_mayHand 8 = .ok (.ifCond .ne 5, 3) := by decide +kernel
theorem dX7_mayHand_11 : decode cX7_mayHand 11 = .ok (.iconst 0, 1) := by decide +kernel
theorem dX7_mayHand_12 : decode cX7_mayHand 12 = .ok (.ireturn, 1) := by decide +kernel
theorem dX7_mayHand_13 : decode cX7_mayHand 13 = .ok (.iload_n 1, 1) := by decide +kernel
theorem dX7_mayHand_14 : decode cX7_mayHand 14 = .ok (.ifCond .eq 18, 3) := by decide +kernel
theorem dX7_mayHand_17 : decode cX7_mayHand 17 = .ok (.iload_n 2, 1) := by decide +kernel
theorem dX7_mayHand_18 : decode cX7_mayHand 18 = .ok (.aload_n 0, 1) := by decide +kernel
theorem dX7_mayHand_19 : decode cX7_mayHand 19 = .ok (.getfield 26, 3) := by decide +kernel
theorem dX7_mayHand_22 : decode cX7_mayHand 22 = .ok (.iload_n 1, 1) := by decide +kernel
theorem dX7_mayHand_23 : decode cX7_mayHand 23 = .ok (.invokevirtual 271, 3) := by decide +kernel
theorem dX7_mayHand_26 : decode cX7_mayHand 26 = .ok (.iconst (-1), 1) := by decide +kernel
theorem dX7_mayHand_27 : decode cX7_mayHand 27 = .ok (.ixor, 1) := by decide +kernel
theorem dX7_mayHand_28 : decode cX7_mayHand 28 = .ok (.iand, 1) := by decide +kernel
theorem dX7_mayHand_29 : decode cX7_mayHand 29 = .ok (.ifCond .ne 7, 3) := by decide +kernel
theorem dX7_mayHand_32 : decode cX7_mayHand 32 = .ok (.iconst 1, 1) := by decide +kernel
theorem dX7_mayHand_33 : decode cX7_mayHand 33 = .ok (.goto 4, 3) := by decide +kernel
theorem dX7_mayHand_36 : decode cX7_mayHand 36 = .ok (.iconst 0, 1) := by decide +kernel
theorem dX7_mayHand_37 : decode cX7_mayHand 37 = .ok (.ireturn, 1) := by decide +kernel
set_option maxRecDepth 20000 in
theorem ggX7_capabilitiesAt_X6_policiesAt : GoodIn wsX7_capabilitiesAt wsX6_policiesAt := goodIn_r _ [7, 8, 9, 10, 11, 12, 13, 14, 15, 59, 60, 61, 62, 63, 64, 65, 66, 67, 68, 69, 70, 71, 72, 73, 74, 75] (by decide +kernel) (by decide +kernel)
set_option maxRecDepth 20000 in
theorem gX7_capabilitiesAt_X6_policiesAt : GoodIn wsX7_capabilitiesAt (wsV RX7 271 RX6 yX6_policiesAt wsX6_policiesAt) := goodIn_app (goodIn_of _ (by decide +kernel)) ggX7_capabilitiesAt_X6_policiesAt
set_option maxRecDepth 20000 in
theorem ggX7_capabilitiesAt_X5_together : GoodIn wsX7_capabilitiesAt wsX5_together := goodIn_r _ [20, 21, 22, 23, 24, 19, 25, 26, 27, 28, 29, 30, 31, 32, 33, 34, 35, 36, 37, 38, 39, 40, 41, 42, 43, 44, 45, 46, 47, 48, 49, 50, 51, 52, 76, 77, 78, 79, 80] (by decide +kernel) (by decide +kernel)
set_option maxRecDepth 20000 in
theorem gX7_capabilitiesAt_X5_together : GoodIn wsX7_capabilitiesAt (wsV RX7 274 RX5 yX5_together wsX5_together) := goodIn_app (goodIn_of _ (by decide +kernel)) ggX7_capabilitiesAt_X5_together
theorem dX7_capabilitiesAt_0 : decode cX7_capabilitiesAt 0 = .ok (.iload_n 1, 1) := by decide +kernel
theorem dX7_capabilitiesAt_1 : decode cX7_capabilitiesAt 1 = .ok (.ifCond .ne 6, 3) := by decide +kernel
theorem dX7_capabilitiesAt_4 : decode cX7_capabilitiesAt 4 = .ok (.bipush 7, 2) := by decide +kernel
theorem dX7_capabilitiesAt_6 : decode cX7_capabilitiesAt 6 = .ok (.ireturn, 1) := by decide +kernel
theorem dX7_capabilitiesAt_7 : decode cX7_capabilitiesAt 7 = .ok (.aload_n 0, 1) := by decide +kernel
theorem dX7_capabilitiesAt_8 : decode cX7_capabilitiesAt 8 = .ok (.getfield 10, 3) := by decide +kernel
theorem dX7_capabilitiesAt_11 : decode cX7_capabilitiesAt 11 = .ok (.aload_n 0, 1) := by decide +kernel
theorem dX7_capabilitiesAt_12 : decode cX7_capabilitiesAt 12 = .ok (.getfield 26, 3) := by decide +kernel
theorem dX7_capabilitiesAt_15 : decode cX7_capabilitiesAt 15 = .ok (.iload_n 1, 1) := by decide +kernel
theorem dX7_capabilitiesAt_16 : decode cX7_capabilitiesAt 16 = .ok (.invokevirtual 271, 3) := by decide +kernel
theorem dX7_capabilitiesAt_19 : decode cX7_capabilitiesAt 19 = .ok (.iload_n 2, 1) := by decide +kernel
theorem dX7_capabilitiesAt_20 : decode cX7_capabilitiesAt 20 = .ok (.invokevirtual 274, 3) := by decide +kernel
theorem dX7_capabilitiesAt_23 : decode cX7_capabilitiesAt 23 = .ok (.istore_n 3, 1) := by decide +kernel
theorem dX7_capabilitiesAt_24 : decode cX7_capabilitiesAt 24 = .ok (.iload_n 3, 1) := by decide +kernel
theorem dX7_capabilitiesAt_25 : decode cX7_capabilitiesAt 25 = .ok (.bipush 8, 2) := by decide +kernel
theorem dX7_capabilitiesAt_27 : decode cX7_capabilitiesAt 27 = .ok (.iand, 1) := by decide +kernel
theorem dX7_capabilitiesAt_28 : decode cX7_capabilitiesAt 28 = .ok (.ifCond .ne 7, 3) := by decide +kernel
theorem dX7_capabilitiesAt_31 : decode cX7_capabilitiesAt 31 = .ok (.iload_n 3, 1) := by decide +kernel
theorem dX7_capabilitiesAt_32 : decode cX7_capabilitiesAt 32 = .ok (.goto 4, 3) := by decide +kernel
theorem dX7_capabilitiesAt_35 : decode cX7_capabilitiesAt 35 = .ok (.iconst 0, 1) := by decide +kernel
theorem dX7_capabilitiesAt_36 : decode cX7_capabilitiesAt 36 = .ok (.ireturn, 1) := by decide +kernel
set_option maxRecDepth 20000 in
theorem ggX7_reasonAgainst_X2_isOn : GoodIn wsX7_reasonAgainst wsX2_isOn := goodIn_r _ [8, 9, 10, 11, 12, 13, 7, 14, 15, 16, 90, 91, 92, 93, 94, 95, 96, 97, 98, 99, 100, 101, 102, 103, 104, 105, 106] (by decide +kernel) (by decide +kernel)
set_option maxRecDepth 20000 in
theorem gX7_reasonAgainst_X2_isOn_u158X6 : GoodIn wsX7_reasonAgainst (va_wsU RX7 158 RX6 "SecretBroker$Leased" ⟨"SecretBroker$Tokens", "isOn", "(I)Z"⟩ yX2_isOn wsX2_isOn) := goodIn_app (goodIn_of _ (by decide +kernel)) ggX7_reasonAgainst_X2_isOn
set_option maxRecDepth 20000 in
theorem ggX7_reasonAgainst_X6_usesAt : GoodIn wsX7_reasonAgainst wsX6_usesAt := goodIn_r _ [21, 22, 23, 24, 25, 13, 7, 14, 15, 98, 99, 100, 101, 102, 103, 104, 105, 106, 90, 91, 92, 93, 94, 95, 96, 97] (by decide +kernel) (by decide +kernel)
set_option maxRecDepth 20000 in
theorem gX7_reasonAgainst_X6_usesAt : GoodIn wsX7_reasonAgainst (wsV RX7 164 RX6 yX6_usesAt wsX6_usesAt) := goodIn_app (goodIn_of _ (by decide +kernel)) ggX7_reasonAgainst_X6_usesAt
set_option maxRecDepth 20000 in
theorem ggX7_reasonAgainst_X3_nearest : GoodIn wsX7_reasonAgainst wsX3_nearest := goodIn_r _ [30, 31, 32, 33, 34, 35, 36, 37, 38, 39, 40, 41, 42, 107, 108, 109, 110] (by decide +kernel) (by decide +kernel)
set_option maxRecDepth 20000 in
theorem gX7_reasonAgainst_X3_nearest : GoodIn wsX7_reasonAgainst (wsV RX7 277 RX3 yX3_nearest wsX3_nearest) := goodIn_app (goodIn_of _ (by decide +kernel)) ggX7_reasonAgainst_X3_nearest
set_option maxRecDepth 20000 in
theorem ggX7_reasonAgainst_X7_capabilitiesAt : GoodIn wsX7_reasonAgainst wsX7_capabilitiesAt := goodIn_r _ [47, 48, 1, 49, 50, 51, 20, 52, 53, 23, 24, 25, 13, 7, 14, 15, 54, 55, 56, 57, 58, 59, 60, 61, 62, 63, 64, 65, 66, 67, 68, 69, 70, 71, 72, 73, 74, 75, 76, 77, 35, 78, 37, 38, 39, 40, 41, 42, 79, 80, 81, 82, 83, 84, 85, 86, 87, 88, 89, 98, 99, 100, 101, 102, 103, 104, 105, 106, 90, 91, 92, 93, 94, 95, 96, 97, 111, 112, 113, 114, 115] (by decide +kernel) (by decide +kernel)
set_option maxRecDepth 20000 in
theorem gX7_reasonAgainst_X7_capabilitiesAt : GoodIn wsX7_reasonAgainst (wsV RX7 170 RX7 yX7_capabilitiesAt wsX7_capabilitiesAt) := goodIn_app (goodIn_of _ (by decide +kernel)) ggX7_reasonAgainst_X7_capabilitiesAt
theorem dX7_reasonAgainst_0 : decode cX7_reasonAgainst 0 = .ok (.aload_n 0, 1) := by decide +kernel
theorem dX7_reasonAgainst_1 : decode cX7_reasonAgainst 1 = .ok (.getfield 26, 3) := by decide +kernel
theorem dX7_reasonAgainst_4 : decode cX7_reasonAgainst 4 = .ok (.iload_n 1, 1) := by decide +kernel
theorem dX7_reasonAgainst_5 : decode cX7_reasonAgainst 5 = .ok (.invokevirtual 158, 3) := by decide +kernel
theorem dX7_reasonAgainst_8 : decode cX7_reasonAgainst 8 = .ok (.ifCond .ne 5, 3) := by decide +kernel
theorem dX7_reasonAgainst_11 : decode cX7_reasonAgainst 11 = .ok (.iconst 1, 1) := by decide +kernel
theorem dX7_reasonAgainst_12 : decode cX7_reasonAgainst 12 = .ok (.ireturn, 1) := by decide +kernel
theorem dX7_reasonAgainst_13 : decode cX7_reasonAgainst 13 = .ok (.aload_n 0, 1) := by decide +kernel
theorem dX7_reasonAgainst_14 : decode cX7_reasonAgainst 14 = .ok (.getfield 26, 3) := by decide +kernel
theorem dX7_reasonAgainst_17 : decode cX7_reasonAgainst 17 = .ok (.iload_n 1, 1) := by decide +kernel
theorem dX7_reasonAgainst_18 : decode cX7_reasonAgainst 18 = .ok (.invokevirtual 164, 3) := by decide +kernel
theorem dX7_reasonAgainst_21 : decode cX7_reasonAgainst 21 = .ok (.ifCond .ne 5, 3) := by decide +kernel
theorem dX7_reasonAgainst_24 : decode cX7_reasonAgainst 24 = .ok (.iconst 2, 1) := by decide +kernel
theorem dX7_reasonAgainst_25 : decode cX7_reasonAgainst 25 = .ok (.ireturn, 1) := by decide +kernel
theorem dX7_reasonAgainst_26 : decode cX7_reasonAgainst 26 = .ok (.aload_n 0, 1) := by decide +kernel
theorem dX7_reasonAgainst_27 : decode cX7_reasonAgainst 27 = .ok (.getfield 19, 3) := by decide +kernel
theorem dX7_reasonAgainst_30 : decode cX7_reasonAgainst 30 = .ok (.iload_n 2, 1) := by decide +kernel
theorem dX7_reasonAgainst_31 : decode cX7_reasonAgainst 31 = .ok (.invokevirtual 277, 3) := by decide +kernel
theorem dX7_reasonAgainst_34 : decode cX7_reasonAgainst 34 = .ok (.iconst (-1), 1) := by decide +kernel
theorem dX7_reasonAgainst_35 : decode cX7_reasonAgainst 35 = .ok (.if_icmp .ne 5, 3) := by decide +kernel
theorem dX7_reasonAgainst_38 : decode cX7_reasonAgainst 38 = .ok (.iconst 3, 1) := by decide +kernel
theorem dX7_reasonAgainst_39 : decode cX7_reasonAgainst 39 = .ok (.ireturn, 1) := by decide +kernel
theorem dX7_reasonAgainst_40 : decode cX7_reasonAgainst 40 = .ok (.aload_n 0, 1) := by decide +kernel
theorem dX7_reasonAgainst_41 : decode cX7_reasonAgainst 41 = .ok (.iload_n 1, 1) := by decide +kernel
theorem dX7_reasonAgainst_42 : decode cX7_reasonAgainst 42 = .ok (.iload_n 2, 1) := by decide +kernel
theorem dX7_reasonAgainst_43 : decode cX7_reasonAgainst 43 = .ok (.invokevirtual 170, 3) := by decide +kernel
theorem dX7_reasonAgainst_46 : decode cX7_reasonAgainst 46 = .ok (.iconst 1, 1) := by decide +kernel
theorem dX7_reasonAgainst_47 : decode cX7_reasonAgainst 47 = .ok (.iand, 1) := by decide +kernel
theorem dX7_reasonAgainst_48 : decode cX7_reasonAgainst 48 = .ok (.ifCond .ne 7, 3) := by decide +kernel
theorem dX7_reasonAgainst_51 : decode cX7_reasonAgainst 51 = .ok (.iconst 4, 1) := by decide +kernel
theorem dX7_reasonAgainst_52 : decode cX7_reasonAgainst 52 = .ok (.goto 4, 3) := by decide +kernel
theorem dX7_reasonAgainst_55 : decode cX7_reasonAgainst 55 = .ok (.iconst 0, 1) := by decide +kernel
theorem dX7_reasonAgainst_56 : decode cX7_reasonAgainst 56 = .ok (.ireturn, 1) := by decide +kernel
set_option maxRecDepth 20000 in
theorem ggX7_give_X3_nearest : GoodIn wsX7_give wsX3_nearest := goodIn_r _ [8, 9, 10, 11, 12, 13, 14, 15, 16, 17, 18, 19, 20, 65, 66, 67, 68] (by decide +kernel) (by decide +kernel)
set_option maxRecDepth 20000 in
theorem gX7_give_X3_nearest : GoodIn wsX7_give (wsV RX7 277 RX3 yX3_nearest wsX3_nearest) := goodIn_app (goodIn_of _ (by decide +kernel)) ggX7_give_X3_nearest
set_option maxRecDepth 20000 in
theorem ggX7_give_X3_minutesAt : GoodIn wsX7_give wsX3_minutesAt := goodIn_r _ [24, 25, 26, 27, 28, 7, 29, 9, 65, 66, 67, 68] (by decide +kernel) (by decide +kernel)
set_option maxRecDepth 20000 in
theorem gX7_give_X3_minutesAt : GoodIn wsX7_give (wsV RX7 280 RX3 yX3_minutesAt wsX3_minutesAt) := goodIn_app (goodIn_of _ (by decide +kernel)) ggX7_give_X3_minutesAt
set_option maxRecDepth 20000 in
theorem ggX7_give_X3_boundAt : GoodIn wsX7_give wsX3_boundAt := goodIn_r _ [33, 34, 26, 27, 28, 7, 29, 9, 65, 66, 67, 68] (by decide +kernel) (by decide +kernel)
set_option maxRecDepth 20000 in
theorem gX7_give_X3_boundAt : GoodIn wsX7_give (wsV RX7 283 RX3 yX3_boundAt wsX3_boundAt) := goodIn_app (goodIn_of _ (by decide +kernel)) ggX7_give_X3_boundAt
set_option maxRecDepth 20000 in
theorem ggX7_give_X2_add : GoodIn wsX7_give wsX2_add := goodIn_r _ [40, 41, 42, 43, 44, 45, 46, 69, 70, 71, 72, 73, 74, 75, 76, 77, 78, 79, 80, 81, 82, 83, 84, 85] (by decide +kernel) (by decide +kernel)
set_option maxRecDepth 20000 in
theorem gX7_give_X2_add_u286X1 : GoodIn wsX7_give (va_wsU RX7 286 RX1 "SecretBroker$Leased" ⟨"SecretBroker$Credentials", "add", "(III)I"⟩ yX2_add wsX2_add) := goodIn_app (goodIn_of _ (by decide +kernel)) ggX7_give_X2_add
set_option maxRecDepth 20000 in
theorem ggX7_give_X1_describe : GoodIn wsX7_give wsX1_describe := goodIn_r _ [51, 52, 53, 54, 55, 56, 57, 39, 58, 41, 69, 70, 71, 72, 73, 74, 75, 76, 77, 78, 79, 80, 81, 82, 83, 84, 85] (by decide +kernel) (by decide +kernel)
set_option maxRecDepth 20000 in
theorem gX7_give_X1_describe : GoodIn wsX7_give (wsV RX7 287 RX1 yX1_describe wsX1_describe) := goodIn_app (goodIn_of _ (by decide +kernel)) ggX7_give_X1_describe
theorem dX7_give_0 : decode cX7_give 0 = .ok (.aload_n 0, 1) := by decide +kernel
theorem dX7_give_1 : decode cX7_give 1 = .ok (.getfield 19, 3) := by decide +kernel
theorem dX7_give_4 : decode cX7_give 4 = .ok (.iload_n 2, 1) := by decide +kernel
theorem dX7_give_5 : decode cX7_give 5 = .ok (.invokevirtual 277, 3) := by decide +kernel
theorem dX7_give_8 : decode cX7_give 8 = .ok (.istore_n 3, 1) := by decide +kernel
theorem dX7_give_9 : decode cX7_give 9 = .ok (.aload_n 0, 1) := by decide +kernel
theorem dX7_give_10 : decode cX7_give 10 = .ok (.getfield 44, 3) := by decide +kernel
theorem dX7_give_13 : decode cX7_give 13 = .ok (.aload_n 0, 1) := by decide +kernel
theorem dX7_give_14 : decode cX7_give 14 = .ok (.getfield 19, 3) := by decide +kernel
theorem dX7_give_17 : decode cX7_give 17 = .ok (.iload_n 3, 1) := by decide +kernel
theorem dX7_give_18 : decode cX7_give 18 = .ok (.invokevirtual 280, 3) := by decide +kernel
theorem dX7_give_21 : decode cX7_give 21 = .ok (.iadd, 1) := by decide +kernel
theorem dX7_give_22 : decode cX7_give 22 = .ok (.istore 4, 2) := by decide +kernel
theorem dX7_give_24 : decode cX7_give 24 = .ok (.aload_n 0, 1) := by decide +kernel
theorem dX7_give_25 : decode cX7_give 25 = .ok (.getfield 33, 3) := by decide +kernel
theorem dX7_give_28 : decode cX7_give 28 = .ok (.aload_n 0, 1) := by decide +kernel
theorem dX7_give_29 : decode cX7_give 29 = .ok (.getfield 44, 3) := by decide +kernel
theorem dX7_give_32 : decode cX7_give 32 = .ok (.iload 4, 2) := by decide +kernel
theorem dX7_give_34 : decode cX7_give 34 = .ok (.aload_n 0, 1) := by decide +kernel
theorem dX7_give_35 : decode cX7_give 35 = .ok (.getfield 19, 3) := by decide +kernel
theorem dX7_give_38 : decode cX7_give 38 = .ok (.iload_n 3, 1) := by decide +kernel
theorem dX7_give_39 : decode cX7_give 39 = .ok (.invokevirtual 283, 3) := by decide +kernel
theorem dX7_give_42 : decode cX7_give 42 = .ok (.invokevirtual 286, 3) := by decide +kernel
theorem dX7_give_45 : decode cX7_give 45 = .ok (.istore 5, 2) := by decide +kernel
theorem dX7_give_47 : decode cX7_give 47 = .ok (.aload_n 0, 1) := by decide +kernel
theorem dX7_give_48 : decode cX7_give 48 = .ok (.getfield 33, 3) := by decide +kernel
theorem dX7_give_51 : decode cX7_give 51 = .ok (.iload 5, 2) := by decide +kernel
theorem dX7_give_53 : decode cX7_give 53 = .ok (.iload_n 1, 1) := by decide +kernel
theorem dX7_give_54 : decode cX7_give 54 = .ok (.iload_n 2, 1) := by decide +kernel
theorem dX7_give_55 : decode cX7_give 55 = .ok (.invokevirtual 287, 3) := by decide +kernel
theorem dX7_give_58 : decode cX7_give 58 = .ok (.iload 5, 2) := by decide +kernel
theorem dX7_give_60 : decode cX7_give 60 = .ok (.ireturn, 1) := by decide +kernel
set_option maxRecDepth 20000 in
theorem ggX7_endToken_X2_end : GoodIn wsX7_endToken wsX2_end := goodIn_r _ [9, 10, 11, 12, 13, 14, 15, 8, 16, 17, 18, 19, 20, 21, 22, 23, 24, 81, 82, 83, 84, 85, 86, 87, 88, 89, 90, 91, 92, 93, 94, 95, 96, 97] (by decide +kernel) (by decide +kernel)
set_option maxRecDepth 20000 in
theorem gX7_endToken_X2_end_u289X6 : GoodIn wsX7_endToken (va_wsU RX7 289 RX6 "SecretBroker$Leased" ⟨"SecretBroker$Tokens", "end", "(I)I"⟩ yX2_end wsX2_end) := goodIn_app (goodIn_of _ (by decide +kernel)) ggX7_endToken_X2_end
set_option maxRecDepth 20000 in
theorem ggX7_endToken_X7_endWhatHungOnTokens : GoodIn wsX7_endToken wsX7_endWhatHungOnTokens := goodIn_r _ [29, 1, 30, 31, 32, 33, 34, 35, 36, 37, 38, 39, 40, 8, 41, 22, 42, 43, 44, 15, 16, 10, 17, 18, 19, 20, 21, 23, 45, 5, 6, 7, 9, 11, 12, 13, 14, 24, 46, 47, 48, 49, 50, 51, 52, 53, 54, 55, 56, 57, 58, 75, 76, 77, 78, 79, 80, 89, 90, 91, 92, 93, 94, 95, 96, 97, 81, 82, 83, 84, 85, 86, 87, 88] (by decide +kernel) (by decide +kernel)
set_option maxRecDepth 20000 in
theorem gX7_endToken_X7_endWhatHungOnTokens : GoodIn wsX7_endToken (wsV RX7 208 RX7 yX7_endWhatHungOnTokens wsX7_endWhatHungOnTokens) := goodIn_app (goodIn_of _ (by decide +kernel)) ggX7_endToken_X7_endWhatHungOnTokens
set_option maxRecDepth 20000 in
theorem ggX7_endToken_X0_write : GoodIn wsX7_endToken wsX0_write := goodIn_r _ [63, 64, 65, 66, 67, 68, 69, 70, 71, 72, 73, 74, 98, 99, 100, 101, 102] (by decide +kernel) (by decide +kernel)
set_option maxRecDepth 20000 in
theorem gX7_endToken_X0_write : GoodIn wsX7_endToken (wsV RX7 140 RX0 yX0_write wsX0_write) := goodIn_app (goodIn_of _ (by decide +kernel)) ggX7_endToken_X0_write
theorem dX7_endToken_0 : decode cX7_endToken 0 = .ok (.aload_n 0, 1) := by decide +kernel
theorem dX7_endToken_1 : decode cX7_endToken 1 = .ok (.getfield 26, 3) := by decide +kernel
theorem dX7_endToken_4 : decode cX7_endToken 4 = .ok (.iload_n 1, 1) := by decide +kernel
theorem dX7_endToken_5 : decode cX7_endToken 5 = .ok (.invokevirtual 289, 3) := by decide +kernel
theorem dX7_endToken_8 : decode cX7_endToken 8 = .ok (.istore_n 2, 1) := by decide +kernel
theorem dX7_endToken_9 : decode cX7_endToken 9 = .ok (.iload_n 2, 1) := by decide +kernel
theorem dX7_endToken_10 : decode cX7_endToken 10 = .ok (.aload_n 0, 1) := by decide +kernel
theorem dX7_endToken_11 : decode cX7_endToken 11 = .ok (.invokevirtual 208, 3) := by decide +kernel
theorem dX7_endToken_14 : decode cX7_endToken 14 = .ok (.iadd, 1) := by decide +kernel
theorem dX7_endToken_15 : decode cX7_endToken 15 = .ok (.istore_n 2, 1) := by decide +kernel
theorem dX7_endToken_16 : decode cX7_endToken 16 = .ok (.aload_n 0, 1) := by decide +kernel
theorem dX7_endToken_17 : decode cX7_endToken 17 = .ok (.getfield 40, 3) := by decide +kernel
theorem dX7_endToken_20 : decode cX7_endToken 20 = .ok (.iconst 4, 1) := by decide +kernel
theorem dX7_endToken_21 : decode cX7_endToken 21 = .ok (.iload_n 1, 1) := by decide +kernel
theorem dX7_endToken_22 : decode cX7_endToken 22 = .ok (.iload_n 2, 1) := by decide +kernel
theorem dX7_endToken_23 : decode cX7_endToken 23 = .ok (.aload_n 0, 1) := by decide +kernel
theorem dX7_endToken_24 : decode cX7_endToken 24 = .ok (.getfield 44, 3) := by decide +kernel
theorem dX7_endToken_27 : decode cX7_endToken 27 = .ok (.invokevirtual 140, 3) := by decide +kernel
theorem dX7_endToken_30 : decode cX7_endToken 30 = .ok (.iload_n 2, 1) := by decide +kernel
theorem dX7_endToken_31 : decode cX7_endToken 31 = .ok (.ireturn, 1) := by decide +kernel
set_option maxRecDepth 20000 in
theorem ggX7_endWhatHungOnTokens_X6_endBelowEnded : GoodIn wsX7_endWhatHungOnTokens wsX6_endBelowEnded := goodIn_r _ [7, 8, 9, 10, 11, 12, 13, 14, 15, 16, 17, 18, 19, 20, 21, 22, 23, 24, 25, 26, 27, 28, 29, 30, 31, 32, 33, 34, 35, 36, 37, 57, 58, 59, 60, 61, 62, 63, 64, 65, 66, 67, 68, 69, 70, 71, 72, 73] (by decide +kernel) (by decide +kernel)
set_option maxRecDepth 20000 in
theorem gX7_endWhatHungOnTokens_X6_endBelowEnded : GoodIn wsX7_endWhatHungOnTokens (wsV RX7 292 RX6 yX6_endBelowEnded wsX6_endBelowEnded) := goodIn_app (goodIn_of _ (by decide +kernel)) ggX7_endWhatHungOnTokens_X6_endBelowEnded
set_option maxRecDepth 20000 in
theorem ggX7_endWhatHungOnTokens_X1_endOfEnded : GoodIn wsX7_endWhatHungOnTokens wsX1_endOfEnded := goodIn_r _ [42, 43, 44, 45, 46, 12, 13, 14, 15, 47, 17, 18, 19, 20, 21, 22, 23, 24, 25, 26, 27, 48, 49, 50, 31, 32, 33, 34, 35, 36, 37, 66, 67, 68, 69, 70, 71, 72, 73, 57, 58, 59, 60, 61, 62, 63, 64, 65] (by decide +kernel) (by decide +kernel)
set_option maxRecDepth 20000 in
theorem gX7_endWhatHungOnTokens_X1_endOfEnded : GoodIn wsX7_endWhatHungOnTokens (wsV RX7 295 RX1 yX1_endOfEnded wsX1_endOfEnded) := goodIn_app (goodIn_of _ (by decide +kernel)) ggX7_endWhatHungOnTokens_X1_endOfEnded
theorem dX7_endWhatHungOnTokens_0 : decode cX7_endWhatHungOnTokens 0 = .ok (.aload_n 0, 1) := by decide +kernel
theorem dX7_endWhatHungOnTokens_1 : decode cX7_endWhatHungOnTokens 1 = .ok (.getfield 26, 3) := by decide +kernel
theorem dX7_endWhatHungOnTokens_4 : decode cX7_endWhatHungOnTokens 4 = .ok (.invokevirtual 292, 3) := by decide +kernel
theorem dX7_endWhatHungOnTokens_7 : decode cX7_endWhatHungOnTokens 7 = .ok (.istore_n 1, 1) := by decide +kernel
theorem dX7_endWhatHungOnTokens_8 : decode cX7_endWhatHungOnTokens 8 = .ok (.iload_n 1, 1) := by decide +kernel
theorem dX7_endWhatHungOnTokens_9 : decode cX7_endWhatHungOnTokens 9 = .ok (.aload_n 0, 1) := by decide +kernel
theorem dX7_endWhatHungOnTokens_10 : decode cX7_endWhatHungOnTokens 10 = .ok (.getfield 33, 3) := by decide +kernel
theorem dX7_endWhatHungOnTokens_13 : decode cX7_endWhatHungOnTokens 13 = .ok (.aload_n 0, 1) := by decide +kernel
theorem dX7_endWhatHungOnTokens_14 : decode cX7_endWhatHungOnTokens 14 = .ok (.getfield 26, 3) := by decide +kernel
theorem dX7_endWhatHungOnTokens_17 : decode cX7_endWhatHungOnTokens 17 = .ok (.invokevirtual 295, 3) := by decide +kernel
theorem dX7_endWhatHungOnTokens_20 : decode cX7_endWhatHungOnTokens 20 = .ok (.iadd, 1) := by decide +kernel
theorem dX7_endWhatHungOnTokens_21 : decode cX7_endWhatHungOnTokens 21 = .ok (.ireturn, 1) := by decide +kernel
theorem dJ9_max_7cf53_0 : decode cJ9_max_7cf53 0 = .ok (.iload_n 0, 1) := by decide +kernel
theorem dJ9_max_7cf53_1 : decode cJ9_max_7cf53 1 = .ok (.iload_n 1, 1) := by decide +kernel
theorem dJ9_max_7cf53_2 : decode cJ9_max_7cf53 2 = .ok (.if_icmp .lt 7, 3) := by decide +kernel
theorem dJ9_max_7cf53_5 : decode cJ9_max_7cf53 5 = .ok (.iload_n 0, 1) := by decide +kernel
theorem dJ9_max_7cf53_6 : decode cJ9_max_7cf53 6 = .ok (.goto 4, 3) := by decide +kernel
theorem dJ9_max_7cf53_9 : decode cJ9_max_7cf53 9 = .ok (.iload_n 1, 1) := by decide +kernel
theorem dJ9_max_7cf53_10 : decode cJ9_max_7cf53 10 = .ok (.ireturn, 1) := by decide +kernel
theorem dJ9_min_7cf53_0 : decode cJ9_min_7cf53 0 = .ok (.iload_n 0, 1) := by decide +kernel
theorem dJ9_min_7cf53_1 : decode cJ9_min_7cf53 1 = .ok (.iload_n 1, 1) := by decide +kernel
theorem dJ9_min_7cf53_2 : decode cJ9_min_7cf53 2 = .ok (.if_icmp .gt 7, 3) := by decide +kernel
theorem dJ9_min_7cf53_5 : decode cJ9_min_7cf53 5 = .ok (.iload_n 0, 1) := by decide +kernel
theorem dJ9_min_7cf53_6 : decode cJ9_min_7cf53 6 = .ok (.goto 4, 3) := by decide +kernel
theorem dJ9_min_7cf53_9 : decode cJ9_min_7cf53 9 = .ok (.iload_n 1, 1) := by decide +kernel
theorem dJ9_min_7cf53_10 : decode cJ9_min_7cf53 10 = .ok (.ireturn, 1) := by decide +kernel
end
section
theorem inlX0 : ∀ w ∈ wsX00, w ∈ wsL_law := fun _ h => List.mem_append_left _ (List.mem_append_left _ (List.mem_append_left _ (List.mem_append_left _ (List.mem_append_right _ h))))
theorem inlX1 : ∀ w ∈ wsX10, w ∈ wsL_law := fun _ h => List.mem_append_left _ (List.mem_append_left _ (List.mem_append_left _ (List.mem_append_left _ (List.mem_append_left _ (List.mem_append_right _ h)))))
theorem inlX3 : ∀ w ∈ wsX30, w ∈ wsL_law := fun _ h => List.mem_append_left _ (List.mem_append_left _ (List.mem_append_left _ (List.mem_append_left _ (List.mem_append_left _ (List.mem_append_left _ (List.mem_append_left _ (List.mem_append_right _ h)))))))
theorem inlX5 : ∀ w ∈ wsX50, w ∈ wsL_law := fun _ h => List.mem_append_left _ (List.mem_append_left _ (List.mem_append_left _ (List.mem_append_left _ (List.mem_append_left _ (List.mem_append_left _ (List.mem_append_left _ (List.mem_append_left _ (List.mem_append_right _ h))))))))
theorem inlX6 : ∀ w ∈ wsX60, w ∈ wsL_law := fun _ h => List.mem_append_left _ (List.mem_append_left _ (List.mem_append_left _ (List.mem_append_left _ (List.mem_append_left _ (List.mem_append_left _ (List.mem_append_right _ h))))))
theorem inlX7 : ∀ w ∈ wsX70, w ∈ wsL_law := fun _ h => List.mem_append_left _ (List.mem_append_left _ (List.mem_append_left _ (List.mem_append_left _ (List.mem_append_left _ (List.mem_append_left _ (List.mem_append_left _ (List.mem_append_left _ (List.mem_append_left _ (List.mem_append_right _ h)))))))))
theorem dL_cell_0 : decode cL_cell 0 = .ok (.iload_n 1, 1) := by decide +kernel
theorem dL_cell_1 : decode cL_cell 1 = .ok (.aload_n 0, 1) := by decide +kernel
theorem dL_cell_2 : decode cL_cell 2 = .ok (.arraylength, 1) := by decide +kernel
theorem dL_cell_3 : decode cL_cell 3 = .ok (.if_icmp .ge 9, 3) := by decide +kernel
theorem dL_cell_6 : decode cL_cell 6 = .ok (.aload_n 0, 1) := by decide +kernel
theorem dL_cell_7 : decode cL_cell 7 = .ok (.iload_n 1, 1) := by decide +kernel
theorem dL_cell_8 : decode cL_cell 8 = .ok (.iaload, 1) := by decide +kernel
theorem dL_cell_9 : decode cL_cell 9 = .ok (.goto 12, 3) := by decide +kernel
theorem dL_cell_12 : decode cL_cell 12 = .ok (.ldc 7, 2) := by decide +kernel
theorem dL_cell_14 : decode cL_cell 14 = .ok (.iload_n 1, 1) := by decide +kernel
theorem dL_cell_15 : decode cL_cell 15 = .ok (.iconst 1, 1) := by decide +kernel
theorem dL_cell_16 : decode cL_cell 16 = .ok (.iadd, 1) := by decide +kernel
theorem dL_cell_17 : decode cL_cell 17 = .ok (.imul, 1) := by decide +kernel
theorem dL_cell_18 : decode cL_cell 18 = .ok (.ldc 8, 2) := by decide +kernel
theorem dL_cell_20 : decode cL_cell 20 = .ok (.iadd, 1) := by decide +kernel
theorem dL_cell_21 : decode cL_cell 21 = .ok (.ireturn, 1) := by decide +kernel
theorem dL_low_0 : decode cL_low 0 = .ok (.iload_n 0, 1) := by decide +kernel
theorem dL_low_1 : decode cL_low 1 = .ok (.ldc 9, 2) := by decide +kernel
theorem dL_low_3 : decode cL_low 3 = .ok (.iand, 1) := by decide +kernel
theorem dL_low_4 : decode cL_low 4 = .ok (.iload_n 1, 1) := by decide +kernel
theorem dL_low_5 : decode cL_low 5 = .ok (.irem, 1) := by decide +kernel
theorem dL_low_6 : decode cL_low 6 = .ok (.ireturn, 1) := by decide +kernel
theorem dL_ten_0 : decode cL_ten 0 = .ok (.iconst 1, 1) := by decide +kernel
theorem dL_ten_1 : decode cL_ten 1 = .ok (.istore_n 1, 1) := by decide +kernel
theorem dL_ten_2 : decode cL_ten 2 = .ok (.iconst 0, 1) := by decide +kernel
theorem dL_ten_3 : decode cL_ten 3 = .ok (.istore_n 2, 1) := by decide +kernel
theorem dL_ten_4 : decode cL_ten 4 = .ok (.iload_n 2, 1) := by decide +kernel
theorem dL_ten_5 : decode cL_ten 5 = .ok (.iload_n 0, 1) := by decide +kernel
theorem dL_ten_6 : decode cL_ten 6 = .ok (.if_icmp .ge 14, 3) := by decide +kernel
theorem dL_ten_9 : decode cL_ten 9 = .ok (.iload_n 1, 1) := by decide +kernel
theorem dL_ten_10 : decode cL_ten 10 = .ok (.bipush 10, 2) := by decide +kernel
theorem dL_ten_12 : decode cL_ten 12 = .ok (.imul, 1) := by decide +kernel
theorem dL_ten_13 : decode cL_ten 13 = .ok (.istore_n 1, 1) := by decide +kernel
theorem dL_ten_14 : decode cL_ten 14 = .ok (.iinc 2 1, 3) := by decide +kernel
theorem dL_ten_17 : decode cL_ten 17 = .ok (.goto (-13), 3) := by decide +kernel
theorem dL_ten_20 : decode cL_ten 20 = .ok (.iload_n 1, 1) := by decide +kernel
theorem dL_ten_21 : decode cL_ten 21 = .ok (.ireturn, 1) := by decide +kernel
set_option maxRecDepth 20000 in
theorem ggL_digits_L_ten : GoodIn wsL_digits wsL_ten := goodIn_r _ [4] (by decide +kernel) (by decide +kernel)
set_option maxRecDepth 20000 in
theorem gL_digits_L_ten : GoodIn wsL_digits (va_wsS RL 10 yL_ten wsL_ten) := goodIn_app (goodIn_of _ (by decide +kernel)) ggL_digits_L_ten
theorem dL_digits_0 : decode cL_digits 0 = .ok (.iconst 0, 1) := by decide +kernel
theorem dL_digits_1 : decode cL_digits 1 = .ok (.istore_n 1, 1) := by decide +kernel
theorem dL_digits_2 : decode cL_digits 2 = .ok (.iload_n 0, 1) := by decide +kernel
theorem dL_digits_3 : decode cL_digits 3 = .ok (.iload_n 1, 1) := by decide +kernel
theorem dL_digits_4 : decode cL_digits 4 = .ok (.invokestatic 10, 3) := by decide +kernel
theorem dL_digits_7 : decode cL_digits 7 = .ok (.if_icmp .lt 9, 3) := by decide +kernel
theorem dL_digits_10 : decode cL_digits 10 = .ok (.iinc 1 1, 3) := by decide +kernel
theorem dL_digits_13 : decode cL_digits 13 = .ok (.goto (-11), 3) := by decide +kernel
theorem dL_digits_16 : decode cL_digits 16 = .ok (.iload_n 1, 1) := by decide +kernel
theorem dL_digits_17 : decode cL_digits 17 = .ok (.ireturn, 1) := by decide +kernel
set_option maxRecDepth 20000 in
theorem ggL_isBelow_L_digits : GoodIn wsL_isBelow wsL_digits := goodIn_r _ [4, 5, 6, 3, 7] (by decide +kernel) (by decide +kernel)
set_option maxRecDepth 20000 in
theorem gL_isBelow_L_digits : GoodIn wsL_isBelow (va_wsS RL 16 yL_digits wsL_digits) := goodIn_app (goodIn_of _ (by decide +kernel)) ggL_isBelow_L_digits
set_option maxRecDepth 20000 in
theorem ggL_isBelow_L_ten : GoodIn wsL_isBelow wsL_ten := goodIn_r _ [7] (by decide +kernel) (by decide +kernel)
set_option maxRecDepth 20000 in
theorem gL_isBelow_L_ten : GoodIn wsL_isBelow (va_wsS RL 10 yL_ten wsL_ten) := goodIn_app (goodIn_of _ (by decide +kernel)) ggL_isBelow_L_ten
theorem dL_isBelow_0 : decode cL_isBelow 0 = .ok (.iload_n 0, 1) := by decide +kernel
theorem dL_isBelow_1 : decode cL_isBelow 1 = .ok (.invokestatic 16, 3) := by decide +kernel
theorem dL_isBelow_4 : decode cL_isBelow 4 = .ok (.iload_n 1, 1) := by decide +kernel
theorem dL_isBelow_5 : decode cL_isBelow 5 = .ok (.invokestatic 16, 3) := by decide +kernel
theorem dL_isBelow_8 : decode cL_isBelow 8 = .ok (.isub, 1) := by decide +kernel
theorem dL_isBelow_9 : decode cL_isBelow 9 = .ok (.istore_n 2, 1) := by decide +kernel
theorem dL_isBelow_10 : decode cL_isBelow 10 = .ok (.iload_n 2, 1) := by decide +kernel
theorem dL_isBelow_11 : decode cL_isBelow 11 = .ok (.ifCond .lt 17, 3) := by decide +kernel
theorem dL_isBelow_14 : decode cL_isBelow 14 = .ok (.iload_n 0, 1) := by decide +kernel
theorem dL_isBelow_15 : decode cL_isBelow 15 = .ok (.iload_n 2, 1) := by decide +kernel
theorem dL_isBelow_16 : decode cL_isBelow 16 = .ok (.invokestatic 10, 3) := by decide +kernel
theorem dL_isBelow_19 : decode cL_isBelow 19 = .ok (.idiv, 1) := by decide +kernel
theorem dL_isBelow_20 : decode cL_isBelow 20 = .ok (.iload_n 1, 1) := by decide +kernel
theorem dL_isBelow_21 : decode cL_isBelow 21 = .ok (.if_icmp .ne 7, 3) := by decide +kernel
theorem dL_isBelow_24 : decode cL_isBelow 24 = .ok (.iconst 1, 1) := by decide +kernel
theorem dL_isBelow_25 : decode cL_isBelow 25 = .ok (.goto 4, 3) := by decide +kernel
theorem dL_isBelow_28 : decode cL_isBelow 28 = .ok (.iconst 0, 1) := by decide +kernel
theorem dL_isBelow_29 : decode cL_isBelow 29 = .ok (.ireturn, 1) := by decide +kernel
set_option maxRecDepth 20000 in
theorem ggL_fit_L_digits : GoodIn wsL_fit wsL_digits := goodIn_r _ [4, 5, 6, 3, 7] (by decide +kernel) (by decide +kernel)
set_option maxRecDepth 20000 in
theorem gL_fit_L_digits : GoodIn wsL_fit (va_wsS RL 16 yL_digits wsL_digits) := goodIn_app (goodIn_of _ (by decide +kernel)) ggL_fit_L_digits
set_option maxRecDepth 20000 in
theorem ggL_fit_L_ten : GoodIn wsL_fit wsL_ten := goodIn_r _ [7] (by decide +kernel) (by decide +kernel)
set_option maxRecDepth 20000 in
theorem gL_fit_L_ten : GoodIn wsL_fit (va_wsS RL 10 yL_ten wsL_ten) := goodIn_app (goodIn_of _ (by decide +kernel)) ggL_fit_L_ten
theorem dL_fit_0 : decode cL_fit 0 = .ok (.iload_n 0, 1) := by decide +kernel
theorem dL_fit_1 : decode cL_fit 1 = .ok (.invokestatic 16, 3) := by decide +kernel
theorem dL_fit_4 : decode cL_fit 4 = .ok (.istore_n 3, 1) := by decide +kernel
theorem dL_fit_5 : decode cL_fit 5 = .ok (.iload_n 2, 1) := by decide +kernel
theorem dL_fit_6 : decode cL_fit 6 = .ok (.invokestatic 16, 3) := by decide +kernel
theorem dL_fit_9 : decode cL_fit 9 = .ok (.iload_n 3, 1) := by decide +kernel
theorem dL_fit_10 : decode cL_fit 10 = .ok (.isub, 1) := by decide +kernel
theorem dL_fit_11 : decode cL_fit 11 = .ok (.istore 4, 2) := by decide +kernel
theorem dL_fit_13 : decode cL_fit 13 = .ok (.iload 4, 2) := by decide +kernel
theorem dL_fit_15 : decode cL_fit 15 = .ok (.ifCond .lt 12, 3) := by decide +kernel
theorem dL_fit_18 : decode cL_fit 18 = .ok (.iload_n 1, 1) := by decide +kernel
theorem dL_fit_19 : decode cL_fit 19 = .ok (.ifCond .ne 10, 3) := by decide +kernel
theorem dL_fit_22 : decode cL_fit 22 = .ok (.iload 4, 2) := by decide +kernel
theorem dL_fit_24 : decode cL_fit 24 = .ok (.ifCond .le 5, 3) := by decide +kernel
theorem dL_fit_27 : decode cL_fit 27 = .ok (.iconst 0, 1) := by decide +kernel
theorem dL_fit_28 : decode cL_fit 28 = .ok (.ireturn, 1) := by decide +kernel
theorem dL_fit_29 : decode cL_fit 29 = .ok (.iconst 0, 1) := by decide +kernel
theorem dL_fit_30 : decode cL_fit 30 = .ok (.istore 5, 2) := by decide +kernel
theorem dL_fit_32 : decode cL_fit 32 = .ok (.iconst 0, 1) := by decide +kernel
theorem dL_fit_33 : decode cL_fit 33 = .ok (.istore 6, 2) := by decide +kernel
theorem dL_fit_35 : decode cL_fit 35 = .ok (.iload 6, 2) := by decide +kernel
theorem dL_fit_37 : decode cL_fit 37 = .ok (.iload_n 3, 1) := by decide +kernel
theorem dL_fit_38 : decode cL_fit 38 = .ok (.if_icmp .ge 68, 3) := by decide +kernel
theorem dL_fit_41 : decode cL_fit 41 = .ok (.iload_n 0, 1) := by decide +kernel
theorem dL_fit_42 : decode cL_fit 42 = .ok (.iload 6, 2) := by decide +kernel
theorem dL_fit_44 : decode cL_fit 44 = .ok (.invokestatic 10, 3) := by decide +kernel
theorem dL_fit_47 : decode cL_fit 47 = .ok (.idiv, 1) := by decide +kernel
theorem dL_fit_48 : decode cL_fit 48 = .ok (.bipush 10, 2) := by decide +kernel
theorem dL_fit_50 : decode cL_fit 50 = .ok (.irem, 1) := by decide +kernel
theorem dL_fit_51 : decode cL_fit 51 = .ok (.istore 7, 2) := by decide +kernel
theorem dL_fit_53 : decode cL_fit 53 = .ok (.iload 7, 2) := by decide +kernel
theorem dL_fit_55 : decode cL_fit 55 = .ok (.bipush 9, 2) := by decide +kernel
theorem dL_fit_57 : decode cL_fit 57 = .ok (.if_icmp .eq 23, 3) := by decide +kernel
theorem dL_fit_60 : decode cL_fit 60 = .ok (.iload 7, 2) := by decide +kernel
theorem dL_fit_62 : decode cL_fit 62 = .ok (.iload_n 2, 1) := by decide +kernel
theorem dL_fit_63 : decode cL_fit 63 = .ok (.iload 4, 2) := by decide +kernel
theorem dL_fit_65 : decode cL_fit 65 = .ok (.iload 6, 2) := by decide +kernel
theorem dL_fit_67 : decode cL_fit 67 = .ok (.iadd, 1) := by decide +kernel
theorem dL_fit_68 : decode cL_fit 68 = .ok (.invokestatic 10, 3) := by decide +kernel
theorem dL_fit_71 : decode cL_fit 71 = .ok (.idiv, 1) := by decide +kernel
theorem dL_fit_72 : decode cL_fit 72 = .ok (.bipush 10, 2) := by decide +kernel
theorem dL_fit_74 : decode cL_fit 74 = .ok (.irem, 1) := by decide +kernel
theorem dL_fit_75 : decode cL_fit 75 = .ok (.if_icmp .eq 5, 3) := by decide +kernel
theorem dL_fit_78 : decode cL_fit 78 = .ok (.iconst 0, 1) := by decide +kernel
theorem dL_fit_79 : decode cL_fit 79 = .ok (.ireturn, 1) := by decide +kernel
theorem dL_fit_80 : decode cL_fit 80 = .ok (.iload 5, 2) := by decide +kernel
theorem dL_fit_82 : decode cL_fit 82 = .ok (.iload 7, 2) := by decide +kernel
theorem dL_fit_84 : decode cL_fit 84 = .ok (.bipush 9, 2) := by decide +kernel
theorem dL_fit_86 : decode cL_fit 86 = .ok (.if_icmp .ne 10, 3) := by decide +kernel
theorem dL_fit_89 : decode cL_fit 89 = .ok (.iconst 1, 1) := by decide +kernel
theorem dL_fit_90 : decode cL_fit 90 = .ok (.iload 6, 2) := by decide +kernel
theorem dL_fit_92 : decode cL_fit 92 = .ok (.ishl, 1) := by decide +kernel
theorem dL_fit_93 : decode cL_fit 93 = .ok (.goto 4, 3) := by decide +kernel
theorem dL_fit_96 : decode cL_fit 96 = .ok (.iconst 0, 1) := by decide +kernel
theorem dL_fit_97 : decode cL_fit 97 = .ok (.iadd, 1) := by decide +kernel
theorem dL_fit_98 : decode cL_fit 98 = .ok (.istore 5, 2) := by decide +kernel
theorem dL_fit_100 : decode cL_fit 100 = .ok (.iinc 6 1, 3) := by decide +kernel
theorem dL_fit_103 : decode cL_fit 103 = .ok (.goto (-68), 3) := by decide +kernel
theorem dL_fit_106 : decode cL_fit 106 = .ok (.iconst 2, 1) := by decide +kernel
theorem dL_fit_107 : decode cL_fit 107 = .ok (.iload_n 3, 1) := by decide +kernel
theorem dL_fit_108 : decode cL_fit 108 = .ok (.imul, 1) := by decide +kernel
theorem dL_fit_109 : decode cL_fit 109 = .ok (.iconst 1, 1) := by decide +kernel
theorem dL_fit_110 : decode cL_fit 110 = .ok (.iadd, 1) := by decide +kernel
theorem dL_fit_111 : decode cL_fit 111 = .ok (.iload_n 1, 1) := by decide +kernel
theorem dL_fit_112 : decode cL_fit 112 = .ok (.isub, 1) := by decide +kernel
theorem dL_fit_113 : decode cL_fit 113 = .ok (.bipush 64, 2) := by decide +kernel
theorem dL_fit_115 : decode cL_fit 115 = .ok (.imul, 1) := by decide +kernel
theorem dL_fit_116 : decode cL_fit 116 = .ok (.bipush 63, 2) := by decide +kernel
theorem dL_fit_118 : decode cL_fit 118 = .ok (.iadd, 1) := by decide +kernel
theorem dL_fit_119 : decode cL_fit 119 = .ok (.iload 5, 2) := by decide +kernel
theorem dL_fit_121 : decode cL_fit 121 = .ok (.isub, 1) := by decide +kernel
theorem dL_fit_122 : decode cL_fit 122 = .ok (.ireturn, 1) := by decide +kernel
set_option maxRecDepth 20000 in
theorem ggL_can_L_fit : GoodIn wsL_can wsL_fit := goodIn_r _ [4, 5, 6, 3, 7, 8, 9, 10] (by decide +kernel) (by decide +kernel)
set_option maxRecDepth 20000 in
theorem gL_can_L_fit : GoodIn wsL_can (va_wsS RL 19 yL_fit wsL_fit) := goodIn_app (goodIn_of _ (by decide +kernel)) ggL_can_L_fit
theorem dL_can_0 : decode cL_can 0 = .ok (.iload_n 0, 1) := by decide +kernel
theorem dL_can_1 : decode cL_can 1 = .ok (.ifCond .ne 6, 3) := by decide +kernel
theorem dL_can_4 : decode cL_can 4 = .ok (.bipush 7, 2) := by decide +kernel
theorem dL_can_6 : decode cL_can 6 = .ok (.ireturn, 1) := by decide +kernel
theorem dL_can_7 : decode cL_can 7 = .ok (.iconst 0, 1) := by decide +kernel
theorem dL_can_8 : decode cL_can 8 = .ok (.istore 6, 2) := by decide +kernel
theorem dL_can_10 : decode cL_can 10 = .ok (.iconst 0, 1) := by decide +kernel
theorem dL_can_11 : decode cL_can 11 = .ok (.istore 7, 2) := by decide +kernel
theorem dL_can_13 : decode cL_can 13 = .ok (.iload 7, 2) := by decide +kernel
theorem dL_can_15 : decode cL_can 15 = .ok (.iconst 3, 1) := by decide +kernel
theorem dL_can_16 : decode cL_can 16 = .ok (.if_icmp .ge 125, 3) := by decide +kernel
theorem dL_can_19 : decode cL_can 19 = .ok (.iconst 0, 1) := by decide +kernel
theorem dL_can_20 : decode cL_can 20 = .ok (.istore 8, 2) := by decide +kernel
theorem dL_can_22 : decode cL_can 22 = .ok (.iconst 0, 1) := by decide +kernel
theorem dL_can_23 : decode cL_can 23 = .ok (.istore 9, 2) := by decide +kernel
theorem dL_can_25 : decode cL_can 25 = .ok (.bipush 6, 2) := by decide +kernel
theorem dL_can_27 : decode cL_can 27 = .ok (.iload 7, 2) := by decide +kernel
theorem dL_can_29 : decode cL_can 29 = .ok (.imul, 1) := by decide +kernel
theorem dL_can_30 : decode cL_can 30 = .ok (.istore 10, 2) := by decide +kernel
theorem dL_can_32 : decode cL_can 32 = .ok (.iload 10, 2) := by decide +kernel
theorem dL_can_34 : decode cL_can 34 = .ok (.bipush 6, 2) := by decide +kernel
theorem dL_can_36 : decode cL_can 36 = .ok (.iload 7, 2) := by decide +kernel
theorem dL_can_38 : decode cL_can 38 = .ok (.imul, 1) := by decide +kernel
theorem dL_can_39 : decode cL_can 39 = .ok (.aload 5, 2) := by decide +kernel
theorem dL_can_41 : decode cL_can 41 = .ok (.iload 7, 2) := by decide +kernel
theorem dL_can_43 : decode cL_can 43 = .ok (.iaload, 1) := by decide +kernel
theorem dL_can_44 : decode cL_can 44 = .ok (.iadd, 1) := by decide +kernel
theorem dL_can_45 : decode cL_can 45 = .ok (.if_icmp .ge 64, 3) := by decide +kernel
theorem dL_can_48 : decode cL_can 48 = .ok (.aload_n 3, 1) := by decide +kernel
theorem dL_can_49 : decode cL_can 49 = .ok (.iload 10, 2) := by decide +kernel
theorem dL_can_51 : decode cL_can 51 = .ok (.iaload, 1) := by decide +kernel
theorem dL_can_52 : decode cL_can 52 = .ok (.bipush 10, 2) := by decide +kernel
theorem dL_can_54 : decode cL_can 54 = .ok (.idiv, 1) := by decide +kernel
theorem dL_can_55 : decode cL_can 55 = .ok (.aload_n 3, 1) := by decide +kernel
theorem dL_can_56 : decode cL_can 56 = .ok (.iload 10, 2) := by decide +kernel
theorem dL_can_58 : decode cL_can 58 = .ok (.iaload, 1) := by decide +kernel
theorem dL_can_59 : decode cL_can 59 = .ok (.bipush 10, 2) := by decide +kernel
theorem dL_can_61 : decode cL_can 61 = .ok (.irem, 1) := by decide +kernel
theorem dL_can_62 : decode cL_can 62 = .ok (.iload_n 1, 1) := by decide +kernel
theorem dL_can_63 : decode cL_can 63 = .ok (.invokestatic 19, 3) := by decide +kernel
theorem dL_can_66 : decode cL_can 66 = .ok (.istore 11, 2) := by decide +kernel
theorem dL_can_68 : decode cL_can 68 = .ok (.iload 11, 2) := by decide +kernel
theorem dL_can_70 : decode cL_can 70 = .ok (.iload 8, 2) := by decide +kernel
theorem dL_can_72 : decode cL_can 72 = .ok (.if_icmp .le 11, 3) := by decide +kernel
theorem dL_can_75 : decode cL_can 75 = .ok (.aload 4, 2) := by decide +kernel
theorem dL_can_77 : decode cL_can 77 = .ok (.iload 10, 2) := by decide +kernel
theorem dL_can_79 : decode cL_can 79 = .ok (.iaload, 1) := by decide +kernel
theorem dL_can_80 : decode cL_can 80 = .ok (.goto 5, 3) := by decide +kernel
theorem dL_can_83 : decode cL_can 83 = .ok (.iload 9, 2) := by decide +kernel
theorem dL_can_85 : decode cL_can 85 = .ok (.istore 9, 2) := by decide +kernel
theorem dL_can_87 : decode cL_can 87 = .ok (.iload 11, 2) := by decide +kernel
theorem dL_can_89 : decode cL_can 89 = .ok (.iload 8, 2) := by decide +kernel
theorem dL_can_91 : decode cL_can 91 = .ok (.if_icmp .le 8, 3) := by decide +kernel
theorem dL_can_94 : decode cL_can 94 = .ok (.iload 11, 2) := by decide +kernel
theorem dL_can_96 : decode cL_can 96 = .ok (.goto 5, 3) := by decide +kernel
theorem dL_can_99 : decode cL_can 99 = .ok (.iload 8, 2) := by decide +kernel
theorem dL_can_101 : decode cL_can 101 = .ok (.istore 8, 2) := by decide +kernel
theorem dL_can_103 : decode cL_can 103 = .ok (.iinc 10 1, 3) := by decide +kernel
theorem dL_can_106 : decode cL_can 106 = .ok (.goto (-74), 3) := by decide +kernel
theorem dL_can_109 : decode cL_can 109 = .ok (.iload 6, 2) := by decide +kernel
theorem dL_can_111 : decode cL_can 111 = .ok (.aload_n 2, 1) := by decide +kernel
theorem dL_can_112 : decode cL_can 112 = .ok (.iconst 5, 1) := by decide +kernel
theorem dL_can_113 : decode cL_can 113 = .ok (.iload_n 0, 1) := by decide +kernel
theorem dL_can_114 : decode cL_can 114 = .ok (.imul, 1) := by decide +kernel
theorem dL_can_115 : decode cL_can 115 = .ok (.iconst 1, 1) := by decide +kernel
theorem dL_can_116 : decode cL_can 116 = .ok (.iadd, 1) := by decide +kernel
theorem dL_can_117 : decode cL_can 117 = .ok (.iaload, 1) := by decide +kernel
theorem dL_can_118 : decode cL_can 118 = .ok (.iload 7, 2) := by decide +kernel
theorem dL_can_120 : decode cL_can 120 = .ok (.ishr, 1) := by decide +kernel
theorem dL_can_121 : decode cL_can 121 = .ok (.iconst 1, 1) := by decide +kernel
theorem dL_can_122 : decode cL_can 122 = .ok (.iand, 1) := by decide +kernel
theorem dL_can_123 : decode cL_can 123 = .ok (.ifCond .ne 7, 3) := by decide +kernel
theorem dL_can_126 : decode cL_can 126 = .ok (.iconst 0, 1) := by decide +kernel
theorem dL_can_127 : decode cL_can 127 = .ok (.goto 5, 3) := by decide +kernel
theorem dL_can_130 : decode cL_can 130 = .ok (.iload 9, 2) := by decide +kernel
theorem dL_can_132 : decode cL_can 132 = .ok (.ior, 1) := by decide +kernel
theorem dL_can_133 : decode cL_can 133 = .ok (.istore 6, 2) := by decide +kernel
theorem dL_can_135 : decode cL_can 135 = .ok (.iinc 7 1, 3) := by decide +kernel
theorem dL_can_138 : decode cL_can 138 = .ok (.goto (-125), 3) := by decide +kernel
theorem dL_can_141 : decode cL_can 141 = .ok (.iload 6, 2) := by decide +kernel
theorem dL_can_143 : decode cL_can 143 = .ok (.bipush 7, 2) := by decide +kernel
theorem dL_can_145 : decode cL_can 145 = .ok (.if_icmp .le 7, 3) := by decide +kernel
theorem dL_can_148 : decode cL_can 148 = .ok (.iconst 0, 1) := by decide +kernel
theorem dL_can_149 : decode cL_can 149 = .ok (.goto 5, 3) := by decide +kernel
theorem dL_can_152 : decode cL_can 152 = .ok (.iload 6, 2) := by decide +kernel
theorem dL_can_154 : decode cL_can 154 = .ok (.ireturn, 1) := by decide +kernel
theorem dL_lives_0 : decode cL_lives 0 = .ok (.iload_n 0, 1) := by decide +kernel
theorem dL_lives_1 : decode cL_lives 1 = .ok (.istore_n 3, 1) := by decide +kernel
theorem dL_lives_2 : decode cL_lives 2 = .ok (.iload_n 3, 1) := by decide +kernel
theorem dL_lives_3 : decode cL_lives 3 = .ok (.ifCond .le 35, 3) := by decide +kernel
theorem dL_lives_6 : decode cL_lives 6 = .ok (.aload_n 2, 1) := by decide +kernel
theorem dL_lives_7 : decode cL_lives 7 = .ok (.iconst 5, 1) := by decide +kernel
theorem dL_lives_8 : decode cL_lives 8 = .ok (.iload_n 3, 1) := by decide +kernel
theorem dL_lives_9 : decode cL_lives 9 = .ok (.imul, 1) := by decide +kernel
theorem dL_lives_10 : decode cL_lives 10 = .ok (.iconst 2, 1) := by decide +kernel
theorem dL_lives_11 : decode cL_lives 11 = .ok (.iadd, 1) := by decide +kernel
theorem dL_lives_12 : decode cL_lives 12 = .ok (.iaload, 1) := by decide +kernel
theorem dL_lives_13 : decode cL_lives 13 = .ok (.aload_n 1, 1) := by decide +kernel
theorem dL_lives_14 : decode cL_lives 14 = .ok (.iconst 0, 1) := by decide +kernel
theorem dL_lives_15 : decode cL_lives 15 = .ok (.iaload, 1) := by decide +kernel
theorem dL_lives_16 : decode cL_lives 16 = .ok (.if_icmp .le 22, 3) := by decide +kernel
theorem dL_lives_19 : decode cL_lives 19 = .ok (.aload_n 2, 1) := by decide +kernel
theorem dL_lives_20 : decode cL_lives 20 = .ok (.iconst 5, 1) := by decide +kernel
theorem dL_lives_21 : decode cL_lives 21 = .ok (.iload_n 3, 1) := by decide +kernel
theorem dL_lives_22 : decode cL_lives 22 = .ok (.imul, 1) := by decide +kernel
theorem dL_lives_23 : decode cL_lives 23 = .ok (.iconst 3, 1) := by decide +kernel
theorem dL_lives_24 : decode cL_lives 24 = .ok (.iadd, 1) := by decide +kernel
theorem dL_lives_25 : decode cL_lives 25 = .ok (.iaload, 1) := by decide +kernel
theorem dL_lives_26 : decode cL_lives 26 = .ok (.ifCond .lt 12, 3) := by decide +kernel
theorem dL_lives_29 : decode cL_lives 29 = .ok (.aload_n 2, 1) := by decide +kernel
theorem dL_lives_30 : decode cL_lives 30 = .ok (.iconst 5, 1) := by decide +kernel
theorem dL_lives_31 : decode cL_lives 31 = .ok (.iload_n 3, 1) := by decide +kernel
theorem dL_lives_32 : decode cL_lives 32 = .ok (.imul, 1) := by decide +kernel
theorem dL_lives_33 : decode cL_lives 33 = .ok (.iaload, 1) := by decide +kernel
theorem dL_lives_34 : decode cL_lives 34 = .ok (.istore_n 3, 1) := by decide +kernel
theorem dL_lives_35 : decode cL_lives 35 = .ok (.goto (-33), 3) := by decide +kernel
theorem dL_lives_38 : decode cL_lives 38 = .ok (.iload_n 3, 1) := by decide +kernel
theorem dL_lives_39 : decode cL_lives 39 = .ok (.ifCond .gt 7, 3) := by decide +kernel
theorem dL_lives_42 : decode cL_lives 42 = .ok (.iconst 1, 1) := by decide +kernel
theorem dL_lives_43 : decode cL_lives 43 = .ok (.goto 4, 3) := by decide +kernel
theorem dL_lives_46 : decode cL_lives 46 = .ok (.iconst 0, 1) := by decide +kernel
theorem dL_lives_47 : decode cL_lives 47 = .ok (.ireturn, 1) := by decide +kernel
set_option maxRecDepth 20000 in
theorem ggL_works_L_lives : GoodIn wsL_works wsL_lives := goodIn_r _ [4] (by decide +kernel) (by decide +kernel)
set_option maxRecDepth 20000 in
theorem gL_works_L_lives : GoodIn wsL_works (va_wsS RL 23 yL_lives wsL_lives) := goodIn_app (goodIn_of _ (by decide +kernel)) ggL_works_L_lives
theorem dL_works_0 : decode cL_works 0 = .ok (.aload_n 3, 1) := by decide +kernel
theorem dL_works_1 : decode cL_works 1 = .ok (.iconst 5, 1) := by decide +kernel
theorem dL_works_2 : decode cL_works 2 = .ok (.iload_n 0, 1) := by decide +kernel
theorem dL_works_3 : decode cL_works 3 = .ok (.imul, 1) := by decide +kernel
theorem dL_works_4 : decode cL_works 4 = .ok (.iconst 4, 1) := by decide +kernel
theorem dL_works_5 : decode cL_works 5 = .ok (.iadd, 1) := by decide +kernel
theorem dL_works_6 : decode cL_works 6 = .ok (.iaload, 1) := by decide +kernel
theorem dL_works_7 : decode cL_works 7 = .ok (.ifCond .ne 33, 3) := by decide +kernel
theorem dL_works_10 : decode cL_works 10 = .ok (.aload_n 3, 1) := by decide +kernel
theorem dL_works_11 : decode cL_works 11 = .ok (.iconst 5, 1) := by decide +kernel
theorem dL_works_12 : decode cL_works 12 = .ok (.iload_n 0, 1) := by decide +kernel
theorem dL_works_13 : decode cL_works 13 = .ok (.imul, 1) := by decide +kernel
theorem dL_works_14 : decode cL_works 14 = .ok (.iconst 2, 1) := by decide +kernel
theorem dL_works_15 : decode cL_works 15 = .ok (.iadd, 1) := by decide +kernel
theorem dL_works_16 : decode cL_works 16 = .ok (.iaload, 1) := by decide +kernel
theorem dL_works_17 : decode cL_works 17 = .ok (.aload_n 1, 1) := by decide +kernel
theorem dL_works_18 : decode cL_works 18 = .ok (.iconst 0, 1) := by decide +kernel
theorem dL_works_19 : decode cL_works 19 = .ok (.iaload, 1) := by decide +kernel
theorem dL_works_20 : decode cL_works 20 = .ok (.if_icmp .le 20, 3) := by decide +kernel
theorem dL_works_23 : decode cL_works 23 = .ok (.aload_n 3, 1) := by decide +kernel
theorem dL_works_24 : decode cL_works 24 = .ok (.iconst 5, 1) := by decide +kernel
end
section
theorem dL_works_25 : decode cL_works 25 = .ok (.iload_n 0, 1) := by decide +kernel
theorem dL_works_26 : decode cL_works 26 = .ok (.imul, 1) := by decide +kernel
theorem dL_works_27 : decode cL_works 27 = .ok (.iaload, 1) := by decide +kernel
theorem dL_works_28 : decode cL_works 28 = .ok (.aload_n 1, 1) := by decide +kernel
theorem dL_works_29 : decode cL_works 29 = .ok (.aload_n 2, 1) := by decide +kernel
theorem dL_works_30 : decode cL_works 30 = .ok (.invokestatic 23, 3) := by decide +kernel
theorem dL_works_33 : decode cL_works 33 = .ok (.ifCond .eq 7, 3) := by decide +kernel
theorem dL_works_36 : decode cL_works 36 = .ok (.iconst 1, 1) := by decide +kernel
theorem dL_works_37 : decode cL_works 37 = .ok (.goto 4, 3) := by decide +kernel
theorem dL_works_40 : decode cL_works 40 = .ok (.iconst 0, 1) := by decide +kernel
theorem dL_works_41 : decode cL_works 41 = .ok (.ireturn, 1) := by decide +kernel
set_option maxRecDepth 20000 in
theorem ggL_living_L_lives : GoodIn wsL_living wsL_lives := goodIn_r _ [4] (by decide +kernel) (by decide +kernel)
set_option maxRecDepth 20000 in
theorem gL_living_L_lives : GoodIn wsL_living (va_wsS RL 23 yL_lives wsL_lives) := goodIn_app (goodIn_of _ (by decide +kernel)) ggL_living_L_lives
theorem dL_living_0 : decode cL_living 0 = .ok (.iconst 0, 1) := by decide +kernel
theorem dL_living_1 : decode cL_living 1 = .ok (.istore_n 2, 1) := by decide +kernel
theorem dL_living_2 : decode cL_living 2 = .ok (.iconst 0, 1) := by decide +kernel
theorem dL_living_3 : decode cL_living 3 = .ok (.istore_n 3, 1) := by decide +kernel
theorem dL_living_4 : decode cL_living 4 = .ok (.iload_n 3, 1) := by decide +kernel
theorem dL_living_5 : decode cL_living 5 = .ok (.aload_n 0, 1) := by decide +kernel
theorem dL_living_6 : decode cL_living 6 = .ok (.iconst 3, 1) := by decide +kernel
theorem dL_living_7 : decode cL_living 7 = .ok (.iaload, 1) := by decide +kernel
theorem dL_living_8 : decode cL_living 8 = .ok (.if_icmp .ge 26, 3) := by decide +kernel
theorem dL_living_11 : decode cL_living 11 = .ok (.iload_n 2, 1) := by decide +kernel
theorem dL_living_12 : decode cL_living 12 = .ok (.iload_n 3, 1) := by decide +kernel
theorem dL_living_13 : decode cL_living 13 = .ok (.aload_n 0, 1) := by decide +kernel
theorem dL_living_14 : decode cL_living 14 = .ok (.aload_n 1, 1) := by decide +kernel
theorem dL_living_15 : decode cL_living 15 = .ok (.invokestatic 23, 3) := by decide +kernel
theorem dL_living_18 : decode cL_living 18 = .ok (.ifCond .eq 7, 3) := by decide +kernel
theorem dL_living_21 : decode cL_living 21 = .ok (.iconst 1, 1) := by decide +kernel
theorem dL_living_22 : decode cL_living 22 = .ok (.goto 4, 3) := by decide +kernel
theorem dL_living_25 : decode cL_living 25 = .ok (.iconst 0, 1) := by decide +kernel
theorem dL_living_26 : decode cL_living 26 = .ok (.iadd, 1) := by decide +kernel
theorem dL_living_27 : decode cL_living 27 = .ok (.istore_n 2, 1) := by decide +kernel
theorem dL_living_28 : decode cL_living 28 = .ok (.iinc 3 1, 3) := by decide +kernel
theorem dL_living_31 : decode cL_living 31 = .ok (.goto (-27), 3) := by decide +kernel
theorem dL_living_34 : decode cL_living 34 = .ok (.iload_n 2, 1) := by decide +kernel
theorem dL_living_35 : decode cL_living 35 = .ok (.ireturn, 1) := by decide +kernel
set_option maxRecDepth 20000 in
theorem ggL_working_L_works : GoodIn wsL_working wsL_works := goodIn_r _ [4, 5, 6, 3, 7] (by decide +kernel) (by decide +kernel)
set_option maxRecDepth 20000 in
theorem gL_working_L_works : GoodIn wsL_working (va_wsS RL 27 yL_works wsL_works) := goodIn_app (goodIn_of _ (by decide +kernel)) ggL_working_L_works
theorem dL_working_0 : decode cL_working 0 = .ok (.iconst 0, 1) := by decide +kernel
theorem dL_working_1 : decode cL_working 1 = .ok (.istore_n 3, 1) := by decide +kernel
theorem dL_working_2 : decode cL_working 2 = .ok (.iconst 0, 1) := by decide +kernel
theorem dL_working_3 : decode cL_working 3 = .ok (.istore 4, 2) := by decide +kernel
theorem dL_working_5 : decode cL_working 5 = .ok (.iload 4, 2) := by decide +kernel
theorem dL_working_7 : decode cL_working 7 = .ok (.aload_n 0, 1) := by decide +kernel
theorem dL_working_8 : decode cL_working 8 = .ok (.iconst 4, 1) := by decide +kernel
theorem dL_working_9 : decode cL_working 9 = .ok (.iaload, 1) := by decide +kernel
theorem dL_working_10 : decode cL_working 10 = .ok (.if_icmp .ge 28, 3) := by decide +kernel
theorem dL_working_13 : decode cL_working 13 = .ok (.iload_n 3, 1) := by decide +kernel
theorem dL_working_14 : decode cL_working 14 = .ok (.iload 4, 2) := by decide +kernel
theorem dL_working_16 : decode cL_working 16 = .ok (.aload_n 0, 1) := by decide +kernel
theorem dL_working_17 : decode cL_working 17 = .ok (.aload_n 1, 1) := by decide +kernel
theorem dL_working_18 : decode cL_working 18 = .ok (.aload_n 2, 1) := by decide +kernel
theorem dL_working_19 : decode cL_working 19 = .ok (.invokestatic 27, 3) := by decide +kernel
theorem dL_working_22 : decode cL_working 22 = .ok (.ifCond .eq 7, 3) := by decide +kernel
theorem dL_working_25 : decode cL_working 25 = .ok (.iconst 1, 1) := by decide +kernel
theorem dL_working_26 : decode cL_working 26 = .ok (.goto 4, 3) := by decide +kernel
theorem dL_working_29 : decode cL_working 29 = .ok (.iconst 0, 1) := by decide +kernel
theorem dL_working_30 : decode cL_working 30 = .ok (.iadd, 1) := by decide +kernel
theorem dL_working_31 : decode cL_working 31 = .ok (.istore_n 3, 1) := by decide +kernel
theorem dL_working_32 : decode cL_working 32 = .ok (.iinc 4 1, 3) := by decide +kernel
theorem dL_working_35 : decode cL_working 35 = .ok (.goto (-30), 3) := by decide +kernel
theorem dL_working_38 : decode cL_working 38 = .ok (.iload_n 3, 1) := by decide +kernel
theorem dL_working_39 : decode cL_working 39 = .ok (.ireturn, 1) := by decide +kernel
set_option maxRecDepth 20000 in
theorem ggL_mountFor_L_isBelow : GoodIn wsL_mountFor wsL_isBelow := goodIn_r _ [4, 5, 6, 3, 7, 8, 9, 10] (by decide +kernel) (by decide +kernel)
set_option maxRecDepth 20000 in
theorem gL_mountFor_L_isBelow : GoodIn wsL_mountFor (va_wsS RL 31 yL_isBelow wsL_isBelow) := goodIn_app (goodIn_of _ (by decide +kernel)) ggL_mountFor_L_isBelow
theorem dL_mountFor_0 : decode cL_mountFor 0 = .ok (.iconst (-1), 1) := by decide +kernel
theorem dL_mountFor_1 : decode cL_mountFor 1 = .ok (.istore_n 3, 1) := by decide +kernel
theorem dL_mountFor_2 : decode cL_mountFor 2 = .ok (.iconst 0, 1) := by decide +kernel
theorem dL_mountFor_3 : decode cL_mountFor 3 = .ok (.istore 4, 2) := by decide +kernel
theorem dL_mountFor_5 : decode cL_mountFor 5 = .ok (.iload 4, 2) := by decide +kernel
theorem dL_mountFor_7 : decode cL_mountFor 7 = .ok (.aload_n 1, 1) := by decide +kernel
theorem dL_mountFor_8 : decode cL_mountFor 8 = .ok (.iconst 2, 1) := by decide +kernel
theorem dL_mountFor_9 : decode cL_mountFor 9 = .ok (.iaload, 1) := by decide +kernel
theorem dL_mountFor_10 : decode cL_mountFor 10 = .ok (.if_icmp .ge 43, 3) := by decide +kernel
theorem dL_mountFor_13 : decode cL_mountFor 13 = .ok (.iload_n 0, 1) := by decide +kernel
theorem dL_mountFor_14 : decode cL_mountFor 14 = .ok (.aload_n 2, 1) := by decide +kernel
theorem dL_mountFor_15 : decode cL_mountFor 15 = .ok (.iconst 3, 1) := by decide +kernel
theorem dL_mountFor_16 : decode cL_mountFor 16 = .ok (.iload 4, 2) := by decide +kernel
theorem dL_mountFor_18 : decode cL_mountFor 18 = .ok (.imul, 1) := by decide +kernel
theorem dL_mountFor_19 : decode cL_mountFor 19 = .ok (.iaload, 1) := by decide +kernel
theorem dL_mountFor_20 : decode cL_mountFor 20 = .ok (.invokestatic 31, 3) := by decide +kernel
theorem dL_mountFor_23 : decode cL_mountFor 23 = .ok (.ifCond .eq 24, 3) := by decide +kernel
theorem dL_mountFor_26 : decode cL_mountFor 26 = .ok (.iload_n 3, 1) := by decide +kernel
theorem dL_mountFor_27 : decode cL_mountFor 27 = .ok (.ifCond .lt 17, 3) := by decide +kernel
theorem dL_mountFor_30 : decode cL_mountFor 30 = .ok (.aload_n 2, 1) := by decide +kernel
theorem dL_mountFor_31 : decode cL_mountFor 31 = .ok (.iconst 3, 1) := by decide +kernel
theorem dL_mountFor_32 : decode cL_mountFor 32 = .ok (.iload 4, 2) := by decide +kernel
theorem dL_mountFor_34 : decode cL_mountFor 34 = .ok (.imul, 1) := by decide +kernel
theorem dL_mountFor_35 : decode cL_mountFor 35 = .ok (.iaload, 1) := by decide +kernel
theorem dL_mountFor_36 : decode cL_mountFor 36 = .ok (.aload_n 2, 1) := by decide +kernel
theorem dL_mountFor_37 : decode cL_mountFor 37 = .ok (.iconst 3, 1) := by decide +kernel
theorem dL_mountFor_38 : decode cL_mountFor 38 = .ok (.iload_n 3, 1) := by decide +kernel
theorem dL_mountFor_39 : decode cL_mountFor 39 = .ok (.imul, 1) := by decide +kernel
theorem dL_mountFor_40 : decode cL_mountFor 40 = .ok (.iaload, 1) := by decide +kernel
theorem dL_mountFor_41 : decode cL_mountFor 41 = .ok (.if_icmp .le 6, 3) := by decide +kernel
theorem dL_mountFor_44 : decode cL_mountFor 44 = .ok (.iload 4, 2) := by decide +kernel
theorem dL_mountFor_46 : decode cL_mountFor 46 = .ok (.istore_n 3, 1) := by decide +kernel
theorem dL_mountFor_47 : decode cL_mountFor 47 = .ok (.iinc 4 1, 3) := by decide +kernel
theorem dL_mountFor_50 : decode cL_mountFor 50 = .ok (.goto (-45), 3) := by decide +kernel
theorem dL_mountFor_53 : decode cL_mountFor 53 = .ok (.iload_n 3, 1) := by decide +kernel
theorem dL_mountFor_54 : decode cL_mountFor 54 = .ok (.ireturn, 1) := by decide +kernel
set_option maxRecDepth 20000 in
theorem ggL_why_L_lives : GoodIn wsL_why wsL_lives := goodIn_r _ [4] (by decide +kernel) (by decide +kernel)
set_option maxRecDepth 20000 in
theorem gL_why_L_lives : GoodIn wsL_why (va_wsS RL 23 yL_lives wsL_lives) := goodIn_app (goodIn_of _ (by decide +kernel)) ggL_why_L_lives
set_option maxRecDepth 20000 in
theorem ggL_why_L_mountFor : GoodIn wsL_why wsL_mountFor := goodIn_r _ [7, 8, 9, 3, 10, 11, 12, 13, 14, 15, 16] (by decide +kernel) (by decide +kernel)
set_option maxRecDepth 20000 in
theorem gL_why_L_mountFor : GoodIn wsL_why (va_wsS RL 35 yL_mountFor wsL_mountFor) := goodIn_app (goodIn_of _ (by decide +kernel)) ggL_why_L_mountFor
set_option maxRecDepth 20000 in
theorem ggL_why_L_can : GoodIn wsL_why wsL_can := goodIn_r _ [19, 20, 21, 3, 22, 11, 12, 13, 14, 15, 16] (by decide +kernel) (by decide +kernel)
set_option maxRecDepth 20000 in
theorem gL_why_L_can : GoodIn wsL_why (va_wsS RL 39 yL_can wsL_can) := goodIn_app (goodIn_of _ (by decide +kernel)) ggL_why_L_can
theorem dL_why_0 : decode cL_why 0 = .ok (.iload_n 0, 1) := by decide +kernel
theorem dL_why_1 : decode cL_why 1 = .ok (.aload_n 2, 1) := by decide +kernel
theorem dL_why_2 : decode cL_why 2 = .ok (.aload_n 3, 1) := by decide +kernel
theorem dL_why_3 : decode cL_why 3 = .ok (.invokestatic 23, 3) := by decide +kernel
theorem dL_why_6 : decode cL_why 6 = .ok (.ifCond .ne 7, 3) := by decide +kernel
theorem dL_why_9 : decode cL_why 9 = .ok (.iconst 1, 1) := by decide +kernel
theorem dL_why_10 : decode cL_why 10 = .ok (.goto 53, 3) := by decide +kernel
theorem dL_why_13 : decode cL_why 13 = .ok (.aload_n 3, 1) := by decide +kernel
theorem dL_why_14 : decode cL_why 14 = .ok (.iconst 5, 1) := by decide +kernel
theorem dL_why_15 : decode cL_why 15 = .ok (.iload_n 0, 1) := by decide +kernel
theorem dL_why_16 : decode cL_why 16 = .ok (.imul, 1) := by decide +kernel
theorem dL_why_17 : decode cL_why 17 = .ok (.iconst 4, 1) := by decide +kernel
theorem dL_why_18 : decode cL_why 18 = .ok (.iadd, 1) := by decide +kernel
theorem dL_why_19 : decode cL_why 19 = .ok (.iaload, 1) := by decide +kernel
theorem dL_why_20 : decode cL_why 20 = .ok (.ifCond .ne 7, 3) := by decide +kernel
theorem dL_why_23 : decode cL_why 23 = .ok (.iconst 2, 1) := by decide +kernel
theorem dL_why_24 : decode cL_why 24 = .ok (.goto 39, 3) := by decide +kernel
theorem dL_why_27 : decode cL_why 27 = .ok (.iload_n 1, 1) := by decide +kernel
theorem dL_why_28 : decode cL_why 28 = .ok (.aload_n 2, 1) := by decide +kernel
theorem dL_why_29 : decode cL_why 29 = .ok (.aload 4, 2) := by decide +kernel
theorem dL_why_31 : decode cL_why 31 = .ok (.invokestatic 35, 3) := by decide +kernel
theorem dL_why_34 : decode cL_why 34 = .ok (.ifCond .ge 7, 3) := by decide +kernel
theorem dL_why_37 : decode cL_why 37 = .ok (.iconst 3, 1) := by decide +kernel
theorem dL_why_38 : decode cL_why 38 = .ok (.goto 25, 3) := by decide +kernel
theorem dL_why_41 : decode cL_why 41 = .ok (.iload_n 0, 1) := by decide +kernel
theorem dL_why_42 : decode cL_why 42 = .ok (.iload_n 1, 1) := by decide +kernel
theorem dL_why_43 : decode cL_why 43 = .ok (.aload_n 3, 1) := by decide +kernel
theorem dL_why_44 : decode cL_why 44 = .ok (.aload 5, 2) := by decide +kernel
theorem dL_why_46 : decode cL_why 46 = .ok (.aload 6, 2) := by decide +kernel
theorem dL_why_48 : decode cL_why 48 = .ok (.aload 7, 2) := by decide +kernel
theorem dL_why_50 : decode cL_why 50 = .ok (.invokestatic 39, 3) := by decide +kernel
theorem dL_why_53 : decode cL_why 53 = .ok (.iconst 2, 1) := by decide +kernel
theorem dL_why_54 : decode cL_why 54 = .ok (.irem, 1) := by decide +kernel
theorem dL_why_55 : decode cL_why 55 = .ok (.ifCond .ne 7, 3) := by decide +kernel
theorem dL_why_58 : decode cL_why 58 = .ok (.iconst 4, 1) := by decide +kernel
theorem dL_why_59 : decode cL_why 59 = .ok (.goto 4, 3) := by decide +kernel
theorem dL_why_62 : decode cL_why 62 = .ok (.iconst 0, 1) := by decide +kernel
theorem dL_why_63 : decode cL_why 63 = .ok (.ireturn, 1) := by decide +kernel
set_option maxRecDepth 20000 in
theorem ggL_refused_X7_create : GoodIn wsL_refused wsX7_create := goodIn_ca (goodIn_ca (goodIn_ca (goodIn_r _ [8, 9, 10, 11, 12, 13, 14, 15, 16, 17, 18, 7, 19, 20, 21, 22, 23, 24, 25, 26, 27, 28, 29, 30, 31, 32, 33, 34, 35, 36, 37, 38, 39, 40, 41, 42, 43, 44, 45, 46, 47, 48, 49, 50, 51, 52, 53, 54, 55, 56, 57, 58, 59, 60, 61, 62, 63, 64, 65, 66, 67, 68, 69, 70, 71, 72, 73, 74, 75, 76, 77, 78, 79, 80, 81, 82, 83, 84, 85, 86, 87, 88, 89, 90, 91, 92, 93, 94, 95, 96, 97, 98, 99, 100, 101, 102, 103, 104, 105, 106, 107, 350, 351, 352, 353, 354, 355, 356, 357, 358, 359, 360, 361, 362, 363, 364, 365, 366, 367, 368, 369, 370, 371, 372, 373, 374, 375, 376, 377, 378, 379, 380, 381, 382] (by decide +kernel) (by decide +kernel)) (goodIn_sub (fun _ h => List.mem_cons_of_mem _ (List.mem_append_left _ (List.mem_append_left _ (List.mem_append_right _ h)))) (by decide +kernel))) (goodIn_sub (fun _ h => List.mem_cons_of_mem _ (List.mem_append_left _ (List.mem_append_right _ h))) (by decide +kernel))) (goodIn_sub (fun _ h => List.mem_cons_of_mem _ (List.mem_append_right _ h)) (by decide +kernel))
set_option maxRecDepth 20000 in
theorem gL_refused_X7_create : GoodIn wsL_refused (wsV RL 43 RX7 yX7_create wsX7_create) := goodIn_app (goodIn_of _ (by decide +kernel)) ggL_refused_X7_create
set_option maxRecDepth 20000 in
theorem ggL_refused_X7_renew : GoodIn wsL_refused wsX7_renew := goodIn_ca (goodIn_ca (goodIn_ca (goodIn_r _ [111, 13, 14, 15, 16, 17, 18, 7, 19, 20, 21, 22, 23, 24, 25, 26, 27, 28, 50, 51, 52, 9, 10, 112, 113, 114, 115, 11, 12, 53, 54, 55, 56, 57, 58, 59, 60, 61, 62, 63, 64, 65, 66, 116, 117, 118, 119, 120, 83, 85, 84, 121, 122, 123, 124, 125, 126, 127, 128, 129, 130, 131, 132, 92, 93, 94, 95, 96, 97, 98, 99, 100, 101, 102, 103, 104, 105, 106, 107, 350, 351, 352, 353, 354, 355, 356, 357, 358, 359, 360, 361, 362, 363, 364, 365, 366, 367, 368, 369, 370, 371, 372, 378, 379, 380, 381, 382] (by decide +kernel) (by decide +kernel)) (goodIn_sub (fun _ h => List.mem_cons_of_mem _ (List.mem_append_right _ h)) (by decide +kernel))) (goodIn_sub (fun _ h => List.mem_cons_of_mem _ (List.mem_append_left _ (List.mem_append_left _ (List.mem_append_right _ h)))) (by decide +kernel))) (goodIn_sub (fun _ h => List.mem_cons_of_mem _ (List.mem_append_left _ (List.mem_append_right _ h))) (by decide +kernel))
set_option maxRecDepth 20000 in
theorem gL_refused_X7_renew : GoodIn wsL_refused (wsV RL 49 RX7 yX7_renew wsX7_renew) := goodIn_app (goodIn_of _ (by decide +kernel)) ggL_refused_X7_renew
set_option maxRecDepth 20000 in
theorem ggL_refused_X7_revoke : GoodIn wsL_refused wsX7_revoke := goodIn_ca (goodIn_ca (goodIn_r _ [136, 16, 17, 18, 7, 19, 20, 21, 13, 22, 23, 24, 25, 26, 27, 28, 112, 113, 114, 115, 11, 12, 53, 54, 55, 56, 57, 58, 59, 60, 61, 62, 63, 64, 65, 66, 137, 138, 139, 140, 15, 14, 141, 142, 143, 144, 145, 72, 146, 147, 148, 149, 150, 151, 152, 153, 154, 155, 156, 157, 43, 158, 90, 159, 160, 161, 162, 163, 164, 165, 166, 167, 168, 169, 170, 171, 172, 173, 174, 175, 176, 177, 178, 92, 93, 94, 95, 96, 97, 98, 99, 100, 101, 102, 103, 104, 105, 106, 107, 350, 351, 352, 353, 354, 355, 356, 357, 358, 359, 360, 361, 362, 363, 364, 365, 366, 367, 368, 369, 370, 371, 372, 378, 379, 380, 381, 382] (by decide +kernel) (by decide +kernel)) (goodIn_sub (fun _ h => List.mem_cons_of_mem _ (List.mem_append_right _ h)) (by decide +kernel))) (goodIn_sub (fun _ h => List.mem_cons_of_mem _ (List.mem_append_left _ (List.mem_append_right _ h))) (by decide +kernel))
set_option maxRecDepth 20000 in
theorem gL_refused_X7_revoke : GoodIn wsL_refused (wsV RL 53 RX7 yX7_revoke wsX7_revoke) := goodIn_app (goodIn_of _ (by decide +kernel)) ggL_refused_X7_revoke
set_option maxRecDepth 20000 in
theorem ggL_refused_X7_revokeAlone : GoodIn wsL_refused wsX7_revokeAlone := goodIn_ca (goodIn_ca (goodIn_r _ [182, 13, 16, 17, 18, 7, 19, 20, 21, 22, 23, 24, 25, 26, 27, 28, 112, 113, 114, 115, 11, 12, 53, 54, 55, 56, 57, 58, 59, 60, 61, 62, 63, 64, 65, 66, 183, 184, 185, 43, 186, 90, 159, 160, 161, 162, 163, 164, 137, 138, 139, 140, 15, 14, 141, 142, 143, 144, 145, 72, 146, 147, 148, 149, 150, 151, 152, 153, 154, 155, 156, 157, 158, 165, 166, 167, 168, 169, 170, 171, 172, 173, 174, 175, 176, 177, 178, 92, 93, 94, 95, 96, 97, 98, 99, 100, 101, 102, 103, 104, 105, 106, 107, 350, 351, 352, 353, 354, 355, 356, 357, 358, 359, 360, 361, 362, 363, 364, 365, 366, 367, 368, 369, 370, 371, 372, 378, 379, 380, 381, 382] (by decide +kernel) (by decide +kernel)) (goodIn_sub (fun _ h => List.mem_cons_of_mem _ (List.mem_append_right _ h)) (by decide +kernel))) (goodIn_sub (fun _ h => List.mem_cons_of_mem _ (List.mem_append_left _ (List.mem_append_right _ h))) (by decide +kernel))
set_option maxRecDepth 20000 in
theorem gL_refused_X7_revokeAlone : GoodIn wsL_refused (wsV RL 56 RX7 yX7_revokeAlone wsX7_revokeAlone) := goodIn_app (goodIn_of _ (by decide +kernel)) ggL_refused_X7_revokeAlone
set_option maxRecDepth 20000 in
theorem ggL_refused_X7_renewCredential : GoodIn wsL_refused wsX7_renewCredential := goodIn_ca (goodIn_ca (goodIn_ca (goodIn_r _ [190, 11, 12, 154, 14, 15, 191, 192, 193, 7, 194, 20, 21, 195, 196, 197, 25, 26, 27, 28, 50, 51, 52, 9, 10, 198, 199, 200, 60, 61, 62, 63, 64, 65, 66, 201, 202, 203, 119, 120, 83, 85, 84, 121, 122, 123, 124, 125, 126, 127, 204, 205, 206, 131, 132, 207, 208, 209, 169, 210, 171, 211, 92, 93, 94, 95, 96, 97, 98, 99, 100, 101, 102, 103, 104, 105, 106, 107, 350, 351, 352, 353, 354, 355, 356, 357, 358, 359, 360, 361, 362, 363, 364, 365, 366, 367, 368, 369, 370, 371, 372, 378, 379, 380, 381, 382] (by decide +kernel) (by decide +kernel)) (goodIn_sub (fun _ h => List.mem_cons_of_mem _ (List.mem_append_left _ (List.mem_append_right _ h))) (by decide +kernel))) (goodIn_sub (fun _ h => List.mem_cons_of_mem _ (List.mem_append_right _ h)) (by decide +kernel))) (goodIn_sub (fun _ h => List.mem_cons_of_mem _ (List.mem_append_left _ (List.mem_append_left _ (List.mem_append_right _ h)))) (by decide +kernel))
set_option maxRecDepth 20000 in
theorem gL_refused_X7_renewCredential : GoodIn wsL_refused (wsV RL 59 RX7 yX7_renewCredential wsX7_renewCredential) := goodIn_app (goodIn_of _ (by decide +kernel)) ggL_refused_X7_renewCredential
set_option maxRecDepth 20000 in
theorem ggL_refused_X7_credentialsOf : GoodIn wsL_refused wsX7_credentialsOf := goodIn_ca (goodIn_r _ [215, 154, 16, 17, 18, 7, 19, 20, 21, 13, 22, 23, 24, 25, 26, 27, 28, 216, 217, 218, 169, 219, 171, 172, 173, 174, 162, 163, 220, 199, 200, 60, 61, 62, 63, 64, 65, 66, 350, 351, 352, 353, 354, 355, 356, 357, 358, 359, 360, 361, 362, 363, 364, 365, 366, 367, 368, 369, 370, 371, 372] (by decide +kernel) (by decide +kernel)) (goodIn_sub (fun _ h => List.mem_cons_of_mem _ (List.mem_append_right _ h)) (by decide +kernel))
set_option maxRecDepth 20000 in
theorem gL_refused_X7_credentialsOf : GoodIn wsL_refused (wsV RL 62 RX7 yX7_credentialsOf wsX7_credentialsOf) := goodIn_app (goodIn_of _ (by decide +kernel)) ggL_refused_X7_credentialsOf
set_option maxRecDepth 20000 in
theorem ggL_refused_X7_endOfCredential : GoodIn wsL_refused wsX7_endOfCredential := goodIn_ca (goodIn_r _ [224, 154, 191, 192, 193, 7, 194, 20, 21, 195, 196, 197, 25, 26, 27, 28, 204, 205, 206, 131, 132, 84, 63, 64, 65, 66, 350, 351, 352, 353, 354, 355, 356, 357, 358, 359, 360, 361, 362, 363, 364, 365, 366, 367, 368, 369, 370, 371, 372] (by decide +kernel) (by decide +kernel)) (goodIn_sub (fun _ h => List.mem_cons_of_mem _ (List.mem_append_right _ h)) (by decide +kernel))
set_option maxRecDepth 20000 in
theorem gL_refused_X7_endOfCredential : GoodIn wsL_refused (wsV RL 65 RX7 yX7_endOfCredential wsX7_endOfCredential) := goodIn_app (goodIn_of _ (by decide +kernel)) ggL_refused_X7_endOfCredential
set_option maxRecDepth 20000 in
theorem ggL_refused_X7_request : GoodIn wsL_refused wsX7_request := goodIn_ca (goodIn_ca (goodIn_ca (goodIn_r _ [228, 11, 12, 154, 13, 15, 14, 16, 17, 18, 7, 19, 20, 21, 22, 23, 24, 25, 26, 27, 28, 229, 230, 231, 9, 10, 232, 233, 234, 235, 236, 237, 238, 239, 240, 241, 242, 243, 244, 57, 58, 59, 60, 61, 62, 63, 64, 65, 66, 245, 246, 247, 43, 248, 91, 46, 249, 250, 251, 252, 253, 254, 255, 256, 257, 258, 259, 260, 261, 262, 263, 264, 265, 266, 267, 268, 33, 40, 41, 42, 44, 45, 269, 270, 271, 37, 272, 39, 273, 274, 275, 276, 277, 278, 279, 280, 281, 282, 283, 284, 285, 286, 287, 288, 289, 290, 291, 292, 293, 294, 295, 296, 297, 298, 299, 70, 71, 72, 300, 301, 302, 76, 77, 303, 304, 305, 306, 164, 92, 93, 94, 95, 96, 97, 98, 99, 100, 101, 102, 103, 104, 105, 106, 107, 307, 308, 309, 310, 311, 312, 313, 314, 315, 316, 317, 318, 319, 320, 321, 322, 323, 324, 325, 326, 327, 81, 82, 83, 84, 85, 328, 329, 330, 169, 331, 171, 332, 211, 196, 197, 350, 351, 352, 353, 354, 355, 356, 357, 358, 359, 360, 361, 362, 363, 364, 365, 366, 367, 368, 369, 370, 371, 372, 383, 384, 385, 386, 373, 374, 375, 376, 377, 378, 379, 380, 381, 382] (by decide +kernel) (by decide +kernel)) (goodIn_sub (fun _ h => List.mem_cons_of_mem _ (List.mem_append_left _ (List.mem_append_right _ h))) (by decide +kernel))) (goodIn_sub (fun _ h => List.mem_cons_of_mem _ (List.mem_append_right _ h)) (by decide +kernel))) (goodIn_sub (fun _ h => List.mem_cons_of_mem _ (List.mem_append_left _ (List.mem_append_left _ (List.mem_append_right _ h)))) (by decide +kernel))
set_option maxRecDepth 20000 in
theorem gL_refused_X7_request : GoodIn wsL_refused (wsV RL 68 RX7 yX7_request wsX7_request) := goodIn_app (goodIn_of _ (by decide +kernel)) ggL_refused_X7_request
set_option maxRecDepth 20000 in
theorem ggL_refused_X7_kindOf : GoodIn wsL_refused wsX7_kindOf := goodIn_ca (goodIn_r _ [336, 15, 337, 338, 339, 7, 340, 20, 21, 341, 342, 343, 95, 344, 97, 345, 346, 347, 348, 100, 349, 350, 351, 352, 353, 354, 355, 378, 379, 380, 381, 382] (by decide +kernel) (by decide +kernel)) (goodIn_sub (fun _ h => List.mem_cons_of_mem _ (List.mem_append_right _ h)) (by decide +kernel))
set_option maxRecDepth 20000 in
theorem gL_refused_X7_kindOf : GoodIn wsL_refused (wsV RL 71 RX7 yX7_kindOf wsX7_kindOf) := goodIn_app (goodIn_of _ (by decide +kernel)) ggL_refused_X7_kindOf
theorem dL_refused_0 : decode cL_refused 0 = .ok (.iload_n 1, 1) := by decide +kernel
theorem dL_refused_1 : decode cL_refused 1 = .ok (.ifCond .ne 17, 3) := by decide +kernel
theorem dL_refused_4 : decode cL_refused 4 = .ok (.aload_n 0, 1) := by decide +kernel
theorem dL_refused_5 : decode cL_refused 5 = .ok (.iload_n 2, 1) := by decide +kernel
theorem dL_refused_6 : decode cL_refused 6 = .ok (.iload_n 3, 1) := by decide +kernel
theorem dL_refused_7 : decode cL_refused 7 = .ok (.iload 4, 2) := by decide +kernel
theorem dL_refused_9 : decode cL_refused 9 = .ok (.iload 4, 2) := by decide +kernel
theorem dL_refused_11 : decode cL_refused 11 = .ok (.iconst 0, 1) := by decide +kernel
theorem dL_refused_12 : decode cL_refused 12 = .ok (.invokevirtual 43, 3) := by decide +kernel
theorem dL_refused_15 : decode cL_refused 15 = .ok (.goto 104, 3) := by decide +kernel
theorem dL_refused_18 : decode cL_refused 18 = .ok (.iload_n 1, 1) := by decide +kernel
theorem dL_refused_19 : decode cL_refused 19 = .ok (.iconst 1, 1) := by decide +kernel
theorem dL_refused_20 : decode cL_refused 20 = .ok (.if_icmp .ne 12, 3) := by decide +kernel
theorem dL_refused_23 : decode cL_refused 23 = .ok (.aload_n 0, 1) := by decide +kernel
theorem dL_refused_24 : decode cL_refused 24 = .ok (.iload_n 2, 1) := by decide +kernel
theorem dL_refused_25 : decode cL_refused 25 = .ok (.iload_n 3, 1) := by decide +kernel
theorem dL_refused_26 : decode cL_refused 26 = .ok (.invokevirtual 49, 3) := by decide +kernel
theorem dL_refused_29 : decode cL_refused 29 = .ok (.goto 90, 3) := by decide +kernel
theorem dL_refused_32 : decode cL_refused 32 = .ok (.iload_n 1, 1) := by decide +kernel
theorem dL_refused_33 : decode cL_refused 33 = .ok (.iconst 2, 1) := by decide +kernel
theorem dL_refused_34 : decode cL_refused 34 = .ok (.if_icmp .ne 11, 3) := by decide +kernel
theorem dL_refused_37 : decode cL_refused 37 = .ok (.aload_n 0, 1) := by decide +kernel
theorem dL_refused_38 : decode cL_refused 38 = .ok (.iload_n 2, 1) := by decide +kernel
theorem dL_refused_39 : decode cL_refused 39 = .ok (.invokevirtual 53, 3) := by decide +kernel
theorem dL_refused_42 : decode cL_refused 42 = .ok (.goto 77, 3) := by decide +kernel
theorem dL_refused_45 : decode cL_refused 45 = .ok (.iload_n 1, 1) := by decide +kernel
theorem dL_refused_46 : decode cL_refused 46 = .ok (.iconst 3, 1) := by decide +kernel
theorem dL_refused_47 : decode cL_refused 47 = .ok (.if_icmp .ne 11, 3) := by decide +kernel
theorem dL_refused_50 : decode cL_refused 50 = .ok (.aload_n 0, 1) := by decide +kernel
theorem dL_refused_51 : decode cL_refused 51 = .ok (.iload_n 2, 1) := by decide +kernel
theorem dL_refused_52 : decode cL_refused 52 = .ok (.invokevirtual 56, 3) := by decide +kernel
theorem dL_refused_55 : decode cL_refused 55 = .ok (.goto 64, 3) := by decide +kernel
theorem dL_refused_58 : decode cL_refused 58 = .ok (.iload_n 1, 1) := by decide +kernel
theorem dL_refused_59 : decode cL_refused 59 = .ok (.iconst 4, 1) := by decide +kernel
theorem dL_refused_60 : decode cL_refused 60 = .ok (.if_icmp .ne 12, 3) := by decide +kernel
theorem dL_refused_63 : decode cL_refused 63 = .ok (.aload_n 0, 1) := by decide +kernel
theorem dL_refused_64 : decode cL_refused 64 = .ok (.iload_n 2, 1) := by decide +kernel
theorem dL_refused_65 : decode cL_refused 65 = .ok (.iload_n 3, 1) := by decide +kernel
theorem dL_refused_66 : decode cL_refused 66 = .ok (.invokevirtual 59, 3) := by decide +kernel
theorem dL_refused_69 : decode cL_refused 69 = .ok (.goto 50, 3) := by decide +kernel
theorem dL_refused_72 : decode cL_refused 72 = .ok (.iload_n 1, 1) := by decide +kernel
theorem dL_refused_73 : decode cL_refused 73 = .ok (.iconst 5, 1) := by decide +kernel
theorem dL_refused_74 : decode cL_refused 74 = .ok (.if_icmp .ne 11, 3) := by decide +kernel
theorem dL_refused_77 : decode cL_refused 77 = .ok (.aload_n 0, 1) := by decide +kernel
theorem dL_refused_78 : decode cL_refused 78 = .ok (.iload_n 2, 1) := by decide +kernel
theorem dL_refused_79 : decode cL_refused 79 = .ok (.invokevirtual 62, 3) := by decide +kernel
theorem dL_refused_82 : decode cL_refused 82 = .ok (.goto 37, 3) := by decide +kernel
theorem dL_refused_85 : decode cL_refused 85 = .ok (.iload_n 1, 1) := by decide +kernel
theorem dL_refused_86 : decode cL_refused 86 = .ok (.bipush 6, 2) := by decide +kernel
theorem dL_refused_88 : decode cL_refused 88 = .ok (.if_icmp .ne 11, 3) := by decide +kernel
theorem dL_refused_91 : decode cL_refused 91 = .ok (.aload_n 0, 1) := by decide +kernel
theorem dL_refused_92 : decode cL_refused 92 = .ok (.iload_n 2, 1) := by decide +kernel
theorem dL_refused_93 : decode cL_refused 93 = .ok (.invokevirtual 65, 3) := by decide +kernel
theorem dL_refused_96 : decode cL_refused 96 = .ok (.goto 23, 3) := by decide +kernel
theorem dL_refused_99 : decode cL_refused 99 = .ok (.iload_n 1, 1) := by decide +kernel
theorem dL_refused_100 : decode cL_refused 100 = .ok (.bipush 7, 2) := by decide +kernel
theorem dL_refused_102 : decode cL_refused 102 = .ok (.if_icmp .ne 12, 3) := by decide +kernel
theorem dL_refused_105 : decode cL_refused 105 = .ok (.aload_n 0, 1) := by decide +kernel
theorem dL_refused_106 : decode cL_refused 106 = .ok (.iload_n 2, 1) := by decide +kernel
theorem dL_refused_107 : decode cL_refused 107 = .ok (.iload_n 3, 1) := by decide +kernel
theorem dL_refused_108 : decode cL_refused 108 = .ok (.invokevirtual 68, 3) := by decide +kernel
theorem dL_refused_111 : decode cL_refused 111 = .ok (.goto 8, 3) := by decide +kernel
theorem dL_refused_114 : decode cL_refused 114 = .ok (.aload_n 0, 1) := by decide +kernel
theorem dL_refused_115 : decode cL_refused 115 = .ok (.iload_n 2, 1) := by decide +kernel
theorem dL_refused_116 : decode cL_refused 116 = .ok (.invokevirtual 71, 3) := by decide +kernel
theorem dL_refused_119 : decode cL_refused 119 = .ok (.iconst 0, 1) := by decide +kernel
theorem dL_refused_120 : decode cL_refused 120 = .ok (.imul, 1) := by decide +kernel
theorem dL_refused_121 : decode cL_refused 121 = .ok (.ireturn, 1) := by decide +kernel
theorem dL_refused_122 : decode cL_refused 122 = .ok (.astore 5, 2) := by decide +kernel
theorem dL_refused_124 : decode cL_refused 124 = .ok (.iconst 1, 1) := by decide +kernel
theorem dL_refused_125 : decode cL_refused 125 = .ok (.ireturn, 1) := by decide +kernel
theorem dL_refused_126 : decode cL_refused 126 = .ok (.astore 5, 2) := by decide +kernel
theorem dL_refused_128 : decode cL_refused 128 = .ok (.iconst 2, 1) := by decide +kernel
theorem dL_refused_129 : decode cL_refused 129 = .ok (.ireturn, 1) := by decide +kernel
theorem dL_refused_130 : decode cL_refused 130 = .ok (.astore 5, 2) := by decide +kernel
theorem dL_refused_132 : decode cL_refused 132 = .ok (.iconst 3, 1) := by decide +kernel
theorem dL_refused_133 : decode cL_refused 133 = .ok (.ireturn, 1) := by decide +kernel
set_option maxRecDepth 20000 in
theorem ggL_writes_X7_entries : GoodIn wsL_writes wsX7_entries := goodIn_r _ [7, 8, 9, 10, 11, 12, 13, 14, 62, 63, 64, 65, 66, 67, 68, 69, 70, 71, 72] (by decide +kernel) (by decide +kernel)
set_option maxRecDepth 20000 in
theorem gL_writes_X7_entries : GoodIn wsL_writes (wsV RL 84 RX7 yX7_entries wsX7_entries) := goodIn_app (goodIn_of _ (by decide +kernel)) ggL_writes_X7_entries
set_option maxRecDepth 20000 in
theorem ggL_writes_X7_kindOf : GoodIn wsL_writes wsX7_kindOf := goodIn_ca (goodIn_r _ [18, 8, 19, 20, 21, 6, 22, 23, 24, 25, 26, 27, 12, 28, 14, 29, 30, 31, 32, 33, 34, 62, 63, 64, 65, 66, 67, 68, 69, 70, 71, 72] (by decide +kernel) (by decide +kernel)) (goodIn_sub (fun _ h => List.mem_cons_of_mem _ (List.mem_append_right _ h)) (by decide +kernel))
set_option maxRecDepth 20000 in
theorem gL_writes_X7_kindOf : GoodIn wsL_writes (wsV RL 71 RX7 yX7_kindOf wsX7_kindOf) := goodIn_app (goodIn_of _ (by decide +kernel)) ggL_writes_X7_kindOf
set_option maxRecDepth 20000 in
theorem ggL_writes_X7_subjectOf : GoodIn wsL_writes wsX7_subjectOf := goodIn_ca (goodIn_r _ [38, 8, 19, 20, 21, 6, 22, 23, 24, 25, 26, 27, 12, 28, 14, 39, 40, 41, 42, 43, 34, 62, 63, 64, 65, 66, 67, 68, 69, 70, 71, 72] (by decide +kernel) (by decide +kernel)) (goodIn_sub (fun _ h => List.mem_cons_of_mem _ (List.mem_append_right _ h)) (by decide +kernel))
set_option maxRecDepth 20000 in
theorem gL_writes_X7_subjectOf : GoodIn wsL_writes (wsV RL 88 RX7 yX7_subjectOf wsX7_subjectOf) := goodIn_app (goodIn_of _ (by decide +kernel)) ggL_writes_X7_subjectOf
set_option maxRecDepth 20000 in
theorem ggL_writes_X7_detailOf : GoodIn wsL_writes wsX7_detailOf := goodIn_ca (goodIn_r _ [47, 8, 19, 20, 21, 6, 22, 23, 24, 25, 26, 27, 12, 28, 14, 48, 49, 50, 51, 52, 34, 62, 63, 64, 65, 66, 67, 68, 69, 70, 71, 72] (by decide +kernel) (by decide +kernel)) (goodIn_sub (fun _ h => List.mem_cons_of_mem _ (List.mem_append_right _ h)) (by decide +kernel))
set_option maxRecDepth 20000 in
theorem gL_writes_X7_detailOf : GoodIn wsL_writes (wsV RL 91 RX7 yX7_detailOf wsX7_detailOf) := goodIn_app (goodIn_of _ (by decide +kernel)) ggL_writes_X7_detailOf
set_option maxRecDepth 20000 in
theorem ggL_writes_X7_sumOf : GoodIn wsL_writes wsX7_sumOf := goodIn_ca (goodIn_r _ [56, 8, 19, 20, 21, 6, 22, 23, 24, 25, 26, 27, 12, 28, 14, 57, 58, 59, 60, 61, 34, 62, 63, 64, 65, 66, 67, 68, 69, 70, 71, 72] (by decide +kernel) (by decide +kernel)) (goodIn_sub (fun _ h => List.mem_cons_of_mem _ (List.mem_append_right _ h)) (by decide +kernel))
set_option maxRecDepth 20000 in
theorem gL_writes_X7_sumOf : GoodIn wsL_writes (wsV RL 94 RX7 yX7_sumOf wsX7_sumOf) := goodIn_app (goodIn_of _ (by decide +kernel)) ggL_writes_X7_sumOf
theorem dL_writes_0 : decode cL_writes 0 = .ok (.aload 5, 2) := by decide +kernel
theorem dL_writes_2 : decode cL_writes 2 = .ok (.iconst 0, 1) := by decide +kernel
theorem dL_writes_3 : decode cL_writes 3 = .ok (.ldc2_w 80, 3) := by decide +kernel
theorem dL_writes_6 : decode cL_writes 6 = .ok (.aload 5, 2) := by decide +kernel
theorem dL_writes_8 : decode cL_writes 8 = .ok (.iconst 0, 1) := by decide +kernel
theorem dL_writes_9 : decode cL_writes 9 = .ok (.laload, 1) := by decide +kernel
theorem dL_writes_10 : decode cL_writes 10 = .ok (.lmul, 1) := by decide +kernel
theorem dL_writes_11 : decode cL_writes 11 = .ok (.bipush 7, 2) := by decide +kernel
theorem dL_writes_13 : decode cL_writes 13 = .ok (.iload_n 1, 1) := by decide +kernel
theorem dL_writes_14 : decode cL_writes 14 = .ok (.imul, 1) := by decide +kernel
theorem dL_writes_15 : decode cL_writes 15 = .ok (.i2l, 1) := by decide +kernel
theorem dL_writes_16 : decode cL_writes 16 = .ok (.ladd, 1) := by decide +kernel
theorem dL_writes_17 : decode cL_writes 17 = .ok (.iconst 5, 1) := by decide +kernel
theorem dL_writes_18 : decode cL_writes 18 = .ok (.iload_n 2, 1) := by decide +kernel
theorem dL_writes_19 : decode cL_writes 19 = .ok (.imul, 1) := by decide +kernel
theorem dL_writes_20 : decode cL_writes 20 = .ok (.i2l, 1) := by decide +kernel
theorem dL_writes_21 : decode cL_writes 21 = .ok (.ladd, 1) := by decide +kernel
theorem dL_writes_22 : decode cL_writes 22 = .ok (.iconst 3, 1) := by decide +kernel
theorem dL_writes_23 : decode cL_writes 23 = .ok (.iload_n 3, 1) := by decide +kernel
theorem dL_writes_24 : decode cL_writes 24 = .ok (.imul, 1) := by decide +kernel
theorem dL_writes_25 : decode cL_writes 25 = .ok (.i2l, 1) := by decide +kernel
theorem dL_writes_26 : decode cL_writes 26 = .ok (.ladd, 1) := by decide +kernel
theorem dL_writes_27 : decode cL_writes 27 = .ok (.aload 4, 2) := by decide +kernel
theorem dL_writes_29 : decode cL_writes 29 = .ok (.iconst 0, 1) := by decide +kernel
theorem dL_writes_30 : decode cL_writes 30 = .ok (.iaload, 1) := by decide +kernel
theorem dL_writes_31 : decode cL_writes 31 = .ok (.i2l, 1) := by decide +kernel
theorem dL_writes_32 : decode cL_writes 32 = .ok (.ladd, 1) := by decide +kernel
theorem dL_writes_33 : decode cL_writes 33 = .ok (.ldc2_w 82, 3) := by decide +kernel
theorem dL_writes_36 : decode cL_writes 36 = .ok (.lrem, 1) := by decide +kernel
theorem dL_writes_37 : decode cL_writes 37 = .ok (.lastore, 1) := by decide +kernel
theorem dL_writes_38 : decode cL_writes 38 = .ok (.aload 4, 2) := by decide +kernel
theorem dL_writes_40 : decode cL_writes 40 = .ok (.iconst 5, 1) := by decide +kernel
theorem dL_writes_41 : decode cL_writes 41 = .ok (.iaload, 1) := by decide +kernel
theorem dL_writes_42 : decode cL_writes 42 = .ok (.istore 6, 2) := by decide +kernel
theorem dL_writes_44 : decode cL_writes 44 = .ok (.aload 4, 2) := by decide +kernel
theorem dL_writes_46 : decode cL_writes 46 = .ok (.iconst 5, 1) := by decide +kernel
theorem dL_writes_47 : decode cL_writes 47 = .ok (.iload 6, 2) := by decide +kernel
theorem dL_writes_49 : decode cL_writes 49 = .ok (.iconst 1, 1) := by decide +kernel
theorem dL_writes_50 : decode cL_writes 50 = .ok (.iadd, 1) := by decide +kernel
theorem dL_writes_51 : decode cL_writes 51 = .ok (.iastore, 1) := by decide +kernel
theorem dL_writes_52 : decode cL_writes 52 = .ok (.aload_n 0, 1) := by decide +kernel
theorem dL_writes_53 : decode cL_writes 53 = .ok (.invokevirtual 84, 3) := by decide +kernel
theorem dL_writes_56 : decode cL_writes 56 = .ok (.iload 6, 2) := by decide +kernel
theorem dL_writes_58 : decode cL_writes 58 = .ok (.iconst 1, 1) := by decide +kernel
theorem dL_writes_59 : decode cL_writes 59 = .ok (.iadd, 1) := by decide +kernel
theorem dL_writes_60 : decode cL_writes 60 = .ok (.if_icmp .ne 51, 3) := by decide +kernel
theorem dL_writes_63 : decode cL_writes 63 = .ok (.aload_n 0, 1) := by decide +kernel
theorem dL_writes_64 : decode cL_writes 64 = .ok (.iload 6, 2) := by decide +kernel
theorem dL_writes_66 : decode cL_writes 66 = .ok (.invokevirtual 71, 3) := by decide +kernel
end
section
theorem dL_writes_69 : decode cL_writes 69 = .ok (.iload_n 1, 1) := by decide +kernel
theorem dL_writes_70 : decode cL_writes 70 = .ok (.if_icmp .ne 41, 3) := by decide +kernel
theorem dL_writes_73 : decode cL_writes 73 = .ok (.aload_n 0, 1) := by decide +kernel
theorem dL_writes_74 : decode cL_writes 74 = .ok (.iload 6, 2) := by decide +kernel
theorem dL_writes_76 : decode cL_writes 76 = .ok (.invokevirtual 88, 3) := by decide +kernel
theorem dL_writes_79 : decode cL_writes 79 = .ok (.iload_n 2, 1) := by decide +kernel
theorem dL_writes_80 : decode cL_writes 80 = .ok (.if_icmp .ne 31, 3) := by decide +kernel
theorem dL_writes_83 : decode cL_writes 83 = .ok (.aload_n 0, 1) := by decide +kernel
theorem dL_writes_84 : decode cL_writes 84 = .ok (.iload 6, 2) := by decide +kernel
theorem dL_writes_86 : decode cL_writes 86 = .ok (.invokevirtual 91, 3) := by decide +kernel
theorem dL_writes_89 : decode cL_writes 89 = .ok (.iload_n 3, 1) := by decide +kernel
theorem dL_writes_90 : decode cL_writes 90 = .ok (.if_icmp .ne 21, 3) := by decide +kernel
theorem dL_writes_93 : decode cL_writes 93 = .ok (.aload_n 0, 1) := by decide +kernel
theorem dL_writes_94 : decode cL_writes 94 = .ok (.iload 6, 2) := by decide +kernel
theorem dL_writes_96 : decode cL_writes 96 = .ok (.invokevirtual 94, 3) := by decide +kernel
theorem dL_writes_99 : decode cL_writes 99 = .ok (.aload 5, 2) := by decide +kernel
theorem dL_writes_101 : decode cL_writes 101 = .ok (.iconst 0, 1) := by decide +kernel
theorem dL_writes_102 : decode cL_writes 102 = .ok (.laload, 1) := by decide +kernel
theorem dL_writes_103 : decode cL_writes 103 = .ok (.lcmp, 1) := by decide +kernel
theorem dL_writes_104 : decode cL_writes 104 = .ok (.ifCond .ne 7, 3) := by decide +kernel
theorem dL_writes_107 : decode cL_writes 107 = .ok (.iconst 1, 1) := by decide +kernel
theorem dL_writes_108 : decode cL_writes 108 = .ok (.goto 4, 3) := by decide +kernel
theorem dL_writes_111 : decode cL_writes 111 = .ok (.iconst 0, 1) := by decide +kernel
theorem dL_writes_112 : decode cL_writes 112 = .ok (.ireturn, 1) := by decide +kernel
set_option maxRecDepth 20000 in
theorem ggL_same_L_lives : GoodIn wsL_same wsL_lives := goodIn_r _ [4] (by decide +kernel) (by decide +kernel)
set_option maxRecDepth 20000 in
theorem gL_same_L_lives : GoodIn wsL_same (va_wsS RL 23 yL_lives wsL_lives) := goodIn_app (goodIn_of _ (by decide +kernel)) ggL_same_L_lives
set_option maxRecDepth 20000 in
theorem ggL_same_X7_isAlive : GoodIn wsL_same wsX7_isAlive := goodIn_ca (goodIn_r _ [9, 10, 11, 12, 13, 8, 14, 15, 16, 17, 18, 19, 20, 21, 22, 23, 24, 25, 26, 27, 28, 29, 30, 31, 32, 33, 441, 442, 443, 444, 445, 446, 447, 448, 449, 450, 451, 452, 453, 454, 455, 456, 457, 458, 459, 460, 461, 462, 463] (by decide +kernel) (by decide +kernel)) (goodIn_sub (fun _ h => List.mem_cons_of_mem _ (List.mem_append_left _ (List.mem_append_left _ (List.mem_append_right _ h)))) (by decide +kernel))
set_option maxRecDepth 20000 in
theorem gL_same_X7_isAlive : GoodIn wsL_same (wsV RL 98 RX7 yX7_isAlive wsX7_isAlive) := goodIn_app (goodIn_of _ (by decide +kernel)) ggL_same_X7_isAlive
set_option maxRecDepth 20000 in
theorem ggL_same_X7_parentOf : GoodIn wsL_same wsX7_parentOf := goodIn_ca (goodIn_r _ [37, 10, 11, 12, 13, 8, 14, 15, 16, 17, 18, 19, 20, 21, 22, 23, 38, 39, 40, 41, 42, 43, 44, 441, 442, 443, 444, 445, 446, 447, 448, 449, 450, 451, 452, 453, 454, 455, 456, 457, 458, 459, 460, 461, 462, 463] (by decide +kernel) (by decide +kernel)) (goodIn_sub (fun _ h => List.mem_cons_of_mem _ (List.mem_append_left _ (List.mem_append_left _ (List.mem_append_right _ h)))) (by decide +kernel))
set_option maxRecDepth 20000 in
theorem gL_same_X7_parentOf : GoodIn wsL_same (wsV RL 102 RX7 yX7_parentOf wsX7_parentOf) := goodIn_app (goodIn_of _ (by decide +kernel)) ggL_same_X7_parentOf
set_option maxRecDepth 20000 in
theorem ggL_same_X7_endOf : GoodIn wsL_same wsX7_endOf := goodIn_ca (goodIn_r _ [48, 10, 11, 12, 13, 8, 14, 15, 16, 17, 18, 19, 20, 21, 22, 23, 49, 50, 51, 52, 53, 54, 30, 31, 32, 33, 441, 442, 443, 444, 445, 446, 447, 448, 449, 450, 451, 452, 453, 454, 455, 456, 457, 458, 459, 460, 461, 462, 463] (by decide +kernel) (by decide +kernel)) (goodIn_sub (fun _ h => List.mem_cons_of_mem _ (List.mem_append_left _ (List.mem_append_left _ (List.mem_append_right _ h)))) (by decide +kernel))
set_option maxRecDepth 20000 in
theorem gL_same_X7_endOf : GoodIn wsL_same (wsV RL 105 RX7 yX7_endOf wsX7_endOf) := goodIn_app (goodIn_of _ (by decide +kernel)) ggL_same_X7_endOf
set_option maxRecDepth 20000 in
theorem ggL_same_X7_usesLeft : GoodIn wsL_same wsX7_usesLeft := goodIn_ca (goodIn_r _ [58, 10, 11, 12, 13, 8, 14, 15, 16, 17, 18, 19, 20, 21, 22, 23, 59, 60, 61, 41, 62, 63, 44, 441, 442, 443, 444, 445, 446, 447, 448, 449, 450, 451, 452, 453, 454, 455, 456, 457, 458, 459, 460, 461, 462, 463] (by decide +kernel) (by decide +kernel)) (goodIn_sub (fun _ h => List.mem_cons_of_mem _ (List.mem_append_left _ (List.mem_append_left _ (List.mem_append_right _ h)))) (by decide +kernel))
set_option maxRecDepth 20000 in
theorem gL_same_X7_usesLeft : GoodIn wsL_same (wsV RL 108 RX7 yX7_usesLeft wsX7_usesLeft) := goodIn_app (goodIn_of _ (by decide +kernel)) ggL_same_X7_usesLeft
set_option maxRecDepth 20000 in
theorem ggL_same_L_works : GoodIn wsL_same wsL_works := goodIn_r _ [66, 1, 2, 3, 4] (by decide +kernel) (by decide +kernel)
set_option maxRecDepth 20000 in
theorem gL_same_L_works : GoodIn wsL_same (va_wsS RL 27 yL_works wsL_works) := goodIn_app (goodIn_of _ (by decide +kernel)) ggL_same_L_works
set_option maxRecDepth 20000 in
theorem ggL_same_X7_works : GoodIn wsL_same wsX7_works := goodIn_ca (goodIn_r _ [70, 71, 72, 73, 74, 8, 75, 15, 16, 76, 77, 78, 20, 21, 22, 23, 79, 80, 81, 27, 28, 29, 30, 31, 32, 33, 441, 442, 443, 444, 445, 446, 447, 448, 449, 450, 451, 452, 453, 454, 455, 456, 457, 458, 459, 460, 461, 462, 463] (by decide +kernel) (by decide +kernel)) (goodIn_sub (fun _ h => List.mem_cons_of_mem _ (List.mem_append_left _ (List.mem_append_left _ (List.mem_append_right _ h)))) (by decide +kernel))
set_option maxRecDepth 20000 in
theorem gL_same_X7_works : GoodIn wsL_same (wsV RL 111 RX7 yX7_works wsX7_works) := goodIn_app (goodIn_of _ (by decide +kernel)) ggL_same_X7_works
set_option maxRecDepth 20000 in
theorem ggL_same_X7_endOfCredential : GoodIn wsL_same wsX7_endOfCredential := goodIn_ca (goodIn_r _ [85, 71, 72, 73, 74, 8, 75, 15, 16, 76, 77, 78, 20, 21, 22, 23, 86, 87, 88, 52, 53, 54, 30, 31, 32, 33, 441, 442, 443, 444, 445, 446, 447, 448, 449, 450, 451, 452, 453, 454, 455, 456, 457, 458, 459, 460, 461, 462, 463] (by decide +kernel) (by decide +kernel)) (goodIn_sub (fun _ h => List.mem_cons_of_mem _ (List.mem_append_left _ (List.mem_append_left _ (List.mem_append_right _ h)))) (by decide +kernel))
set_option maxRecDepth 20000 in
theorem gL_same_X7_endOfCredential : GoodIn wsL_same (wsV RL 65 RX7 yX7_endOfCredential wsX7_endOfCredential) := goodIn_app (goodIn_of _ (by decide +kernel)) ggL_same_X7_endOfCredential
set_option maxRecDepth 20000 in
theorem ggL_same_L_low : GoodIn wsL_same wsL_low := goodIn_r _ [91, 92] (by decide +kernel) (by decide +kernel)
set_option maxRecDepth 20000 in
theorem gL_same_L_low : GoodIn wsL_same (va_wsS RL 113 yL_low wsL_low) := goodIn_app (goodIn_of _ (by decide +kernel)) ggL_same_L_low
set_option maxRecDepth 20000 in
theorem ggL_same_X7_below : GoodIn wsL_same wsX7_below := goodIn_ca (goodIn_r _ [96, 10, 11, 12, 13, 8, 14, 15, 16, 17, 18, 19, 20, 21, 22, 23, 97, 98, 99, 41, 100, 101, 102, 103, 104, 105, 106, 25, 26, 27, 28, 29, 30, 31, 32, 33, 107, 108, 109, 110, 111, 39, 40, 42, 43, 44, 441, 442, 443, 444, 445, 446, 447, 448, 449, 450, 451, 452, 453, 454, 455, 456, 457, 458, 459, 460, 461, 462, 463] (by decide +kernel) (by decide +kernel)) (goodIn_sub (fun _ h => List.mem_cons_of_mem _ (List.mem_append_left _ (List.mem_append_left _ (List.mem_append_right _ h)))) (by decide +kernel))
set_option maxRecDepth 20000 in
theorem gL_same_X7_below : GoodIn wsL_same (wsV RL 116 RX7 yX7_below wsX7_below) := goodIn_app (goodIn_of _ (by decide +kernel)) ggL_same_X7_below
set_option maxRecDepth 20000 in
theorem ggL_same_X7_credentialsOf : GoodIn wsL_same wsX7_credentialsOf := goodIn_ca (goodIn_r _ [115, 71, 11, 12, 13, 8, 14, 15, 16, 10, 17, 18, 19, 20, 21, 22, 23, 116, 117, 118, 119, 120, 121, 122, 123, 124, 104, 105, 125, 80, 81, 27, 28, 29, 30, 31, 32, 33, 441, 442, 443, 444, 445, 446, 447, 448, 449, 450, 451, 452, 453, 454, 455, 456, 457, 458, 459, 460, 461, 462, 463] (by decide +kernel) (by decide +kernel)) (goodIn_sub (fun _ h => List.mem_cons_of_mem _ (List.mem_append_left _ (List.mem_append_left _ (List.mem_append_right _ h)))) (by decide +kernel))
set_option maxRecDepth 20000 in
theorem gL_same_X7_credentialsOf : GoodIn wsL_same (wsV RL 62 RX7 yX7_credentialsOf wsX7_credentialsOf) := goodIn_app (goodIn_of _ (by decide +kernel)) ggL_same_X7_credentialsOf
set_option maxRecDepth 20000 in
theorem ggL_same_L_refused : GoodIn wsL_same wsL_refused := goodIn_ca (goodIn_ca (goodIn_ca (goodIn_r _ [128, 129, 130, 131, 132, 133, 134, 8, 135, 136, 137, 138, 139, 10, 140, 141, 11, 12, 13, 14, 15, 16, 17, 18, 19, 20, 21, 22, 23, 142, 143, 144, 145, 146, 147, 148, 149, 150, 151, 152, 153, 154, 155, 41, 156, 157, 44, 158, 159, 160, 161, 162, 163, 164, 165, 166, 167, 24, 25, 26, 27, 28, 29, 30, 31, 32, 33, 168, 169, 170, 171, 172, 173, 174, 175, 176, 177, 178, 179, 180, 181, 182, 183, 184, 54, 185, 186, 187, 188, 189, 43, 63, 190, 191, 192, 193, 194, 195, 196, 197, 198, 199, 200, 201, 202, 203, 204, 205, 206, 207, 208, 209, 210, 211, 212, 213, 214, 215, 216, 217, 218, 219, 220, 221, 222, 223, 224, 225, 49, 50, 51, 52, 53, 226, 227, 228, 229, 230, 231, 232, 233, 234, 235, 236, 237, 238, 239, 240, 241, 242, 243, 244, 245, 246, 71, 247, 248, 249, 250, 101, 102, 103, 104, 105, 106, 251, 252, 253, 254, 119, 255, 121, 122, 123, 124, 256, 257, 258, 259, 260, 261, 262, 263, 264, 265, 266, 267, 268, 269, 270, 271, 72, 73, 74, 75, 76, 77, 78, 79, 80, 81, 272, 273, 274, 86, 87, 88, 275, 276, 277, 278, 279, 112, 113, 114, 115, 116, 117, 118, 120, 125, 82, 83, 84, 85, 280, 281, 282, 283, 284, 285, 286, 287, 288, 289, 290, 291, 292, 293, 294, 295, 296, 297, 298, 299, 59, 60, 61, 62, 300, 301, 302, 303, 304, 305, 306, 307, 308, 309, 310, 311, 312, 313, 314, 315, 316, 317, 318, 319, 320, 321, 322, 323, 324, 325, 326, 327, 328, 329, 330, 331, 332, 333, 334, 335, 336, 337, 338, 339, 340, 341, 342, 343, 344, 345, 346, 347, 348, 349, 350, 351, 352, 353, 354, 355, 356, 357, 358, 359, 360, 361, 362, 363, 364, 365, 366, 367, 368, 369, 370, 371, 372, 373, 374, 375, 376, 377, 378, 379, 380, 381, 382, 383, 384, 385, 386, 387, 388, 389, 390, 391, 392, 393, 394, 395, 396, 397, 398, 399, 400, 441, 442, 443, 444, 445, 446, 447, 448, 449, 450, 451, 452, 453, 454, 455, 456, 457, 458, 459, 460, 461, 462, 463, 464, 465, 466, 467, 468, 469, 470, 471, 472, 473, 474, 475, 476, 477] (by decide +kernel) (by decide +kernel)) (goodIn_sub (fun _ h => List.mem_cons_of_mem _ (List.mem_append_left _ (List.mem_append_right _ h))) (by decide +kernel))) (goodIn_sub (fun _ h => List.mem_cons_of_mem _ (List.mem_append_right _ h)) (by decide +kernel))) (goodIn_sub (fun _ h => List.mem_cons_of_mem _ (List.mem_append_left _ (List.mem_append_left _ (List.mem_append_right _ h)))) (by decide +kernel))
set_option maxRecDepth 20000 in
theorem gL_same_L_refused : GoodIn wsL_same (va_wsS RL 119 yL_refused wsL_refused) := goodIn_app (goodIn_of _ (by decide +kernel)) ggL_same_L_refused
set_option maxRecDepth 20000 in
theorem ggL_same_X7_tokens : GoodIn wsL_same wsX7_tokens := goodIn_r _ [404, 10, 168, 169, 170, 171, 21, 172, 173, 441, 442, 443, 444, 445, 446, 447, 448, 449, 450, 451, 452, 453, 454, 455, 456, 457, 458, 459, 460, 461, 462, 463] (by decide +kernel) (by decide +kernel)
set_option maxRecDepth 20000 in
theorem gL_same_X7_tokens : GoodIn wsL_same (wsV RL 123 RX7 yX7_tokens wsX7_tokens) := goodIn_app (goodIn_of _ (by decide +kernel)) ggL_same_X7_tokens
set_option maxRecDepth 20000 in
theorem ggL_same_L_living : GoodIn wsL_same wsL_living := goodIn_r _ [407, 1, 2, 3, 4] (by decide +kernel) (by decide +kernel)
set_option maxRecDepth 20000 in
theorem gL_same_L_living : GoodIn wsL_same (va_wsS RL 126 yL_living wsL_living) := goodIn_app (goodIn_of _ (by decide +kernel)) ggL_same_L_living
set_option maxRecDepth 20000 in
theorem ggL_same_X7_credentials : GoodIn wsL_same wsX7_credentials := goodIn_r _ [411, 71, 348, 349, 350, 171, 21, 172, 173, 441, 442, 443, 444, 445, 446, 447, 448, 449, 450, 451, 452, 453, 454, 455, 456, 457, 458, 459, 460, 461, 462, 463] (by decide +kernel) (by decide +kernel)
set_option maxRecDepth 20000 in
theorem gL_same_X7_credentials : GoodIn wsL_same (wsV RL 130 RX7 yX7_credentials wsX7_credentials) := goodIn_app (goodIn_of _ (by decide +kernel)) ggL_same_X7_credentials
set_option maxRecDepth 20000 in
theorem ggL_same_L_working : GoodIn wsL_same wsL_working := goodIn_r _ [414, 64, 65, 3, 66, 1, 2, 4] (by decide +kernel) (by decide +kernel)
set_option maxRecDepth 20000 in
theorem gL_same_L_working : GoodIn wsL_same (va_wsS RL 133 yL_working wsL_working) := goodIn_app (goodIn_of _ (by decide +kernel)) ggL_same_L_working
set_option maxRecDepth 20000 in
theorem ggL_same_X7_nextEnd : GoodIn wsL_same wsX7_nextEnd := goodIn_r _ [418, 10, 71, 419, 224, 221, 225, 420, 220, 222, 421, 422, 423, 424, 21, 425, 23, 29, 54, 426, 427, 428, 441, 442, 443, 444, 445, 446, 447, 448, 449, 450, 451, 452, 453, 454, 455, 456, 457, 458, 459, 460, 461, 462, 463] (by decide +kernel) (by decide +kernel)
set_option maxRecDepth 20000 in
theorem gL_same_X7_nextEnd : GoodIn wsL_same (wsV RL 137 RX7 yX7_nextEnd wsX7_nextEnd) := goodIn_app (goodIn_of _ (by decide +kernel)) ggL_same_X7_nextEnd
set_option maxRecDepth 20000 in
theorem ggL_same_X7_time : GoodIn wsL_same wsX7_time := goodIn_r _ [432, 140, 441, 442, 443, 444, 445, 446] (by decide +kernel) (by decide +kernel)
set_option maxRecDepth 20000 in
theorem gL_same_X7_time : GoodIn wsL_same (wsV RL 140 RX7 yX7_time wsX7_time) := goodIn_app (goodIn_of _ (by decide +kernel)) ggL_same_X7_time
set_option maxRecDepth 20000 in
theorem ggL_same_X7_entries : GoodIn wsL_same wsX7_entries := goodIn_r _ [436, 141, 437, 438, 439, 193, 440, 195, 441, 442, 443, 444, 445, 446, 469, 470, 471, 472, 473] (by decide +kernel) (by decide +kernel)
set_option maxRecDepth 20000 in
theorem gL_same_X7_entries : GoodIn wsL_same (wsV RL 84 RX7 yX7_entries wsX7_entries) := goodIn_app (goodIn_of _ (by decide +kernel)) ggL_same_X7_entries
theorem dL_same_0 : decode cL_same 0 = .ok (.iconst (-1), 1) := by decide +kernel
theorem dL_same_1 : decode cL_same 1 = .ok (.istore 5, 2) := by decide +kernel
theorem dL_same_3 : decode cL_same 3 = .ok (.iconst 0, 1) := by decide +kernel
theorem dL_same_4 : decode cL_same 4 = .ok (.istore 6, 2) := by decide +kernel
theorem dL_same_6 : decode cL_same 6 = .ok (.iload 6, 2) := by decide +kernel
theorem dL_same_8 : decode cL_same 8 = .ok (.aload_n 2, 1) := by decide +kernel
theorem dL_same_9 : decode cL_same 9 = .ok (.iconst 3, 1) := by decide +kernel
theorem dL_same_10 : decode cL_same 10 = .ok (.iaload, 1) := by decide +kernel
theorem dL_same_11 : decode cL_same 11 = .ok (.if_icmp .ge 128, 3) := by decide +kernel
theorem dL_same_14 : decode cL_same 14 = .ok (.iload 6, 2) := by decide +kernel
theorem dL_same_16 : decode cL_same 16 = .ok (.aload_n 2, 1) := by decide +kernel
theorem dL_same_17 : decode cL_same 17 = .ok (.aload_n 3, 1) := by decide +kernel
theorem dL_same_18 : decode cL_same 18 = .ok (.invokestatic 23, 3) := by decide +kernel
theorem dL_same_21 : decode cL_same 21 = .ok (.istore 7, 2) := by decide +kernel
theorem dL_same_23 : decode cL_same 23 = .ok (.aload_n 0, 1) := by decide +kernel
theorem dL_same_24 : decode cL_same 24 = .ok (.iload 6, 2) := by decide +kernel
theorem dL_same_26 : decode cL_same 26 = .ok (.invokevirtual 98, 3) := by decide +kernel
theorem dL_same_29 : decode cL_same 29 = .ok (.iload 7, 2) := by decide +kernel
theorem dL_same_31 : decode cL_same 31 = .ok (.if_icmp .ne 57, 3) := by decide +kernel
theorem dL_same_34 : decode cL_same 34 = .ok (.aload_n 0, 1) := by decide +kernel
theorem dL_same_35 : decode cL_same 35 = .ok (.iload 6, 2) := by decide +kernel
theorem dL_same_37 : decode cL_same 37 = .ok (.invokevirtual 102, 3) := by decide +kernel
theorem dL_same_40 : decode cL_same 40 = .ok (.aload_n 3, 1) := by decide +kernel
theorem dL_same_41 : decode cL_same 41 = .ok (.iconst 5, 1) := by decide +kernel
theorem dL_same_42 : decode cL_same 42 = .ok (.iload 6, 2) := by decide +kernel
theorem dL_same_44 : decode cL_same 44 = .ok (.imul, 1) := by decide +kernel
theorem dL_same_45 : decode cL_same 45 = .ok (.iaload, 1) := by decide +kernel
theorem dL_same_46 : decode cL_same 46 = .ok (.if_icmp .ne 42, 3) := by decide +kernel
theorem dL_same_49 : decode cL_same 49 = .ok (.aload_n 0, 1) := by decide +kernel
theorem dL_same_50 : decode cL_same 50 = .ok (.iload 6, 2) := by decide +kernel
theorem dL_same_52 : decode cL_same 52 = .ok (.invokevirtual 105, 3) := by decide +kernel
theorem dL_same_55 : decode cL_same 55 = .ok (.aload_n 3, 1) := by decide +kernel
theorem dL_same_56 : decode cL_same 56 = .ok (.iconst 5, 1) := by decide +kernel
theorem dL_same_57 : decode cL_same 57 = .ok (.iload 6, 2) := by decide +kernel
theorem dL_same_59 : decode cL_same 59 = .ok (.imul, 1) := by decide +kernel
theorem dL_same_60 : decode cL_same 60 = .ok (.iconst 2, 1) := by decide +kernel
theorem dL_same_61 : decode cL_same 61 = .ok (.iadd, 1) := by decide +kernel
theorem dL_same_62 : decode cL_same 62 = .ok (.iaload, 1) := by decide +kernel
theorem dL_same_63 : decode cL_same 63 = .ok (.if_icmp .eq 8, 3) := by decide +kernel
theorem dL_same_66 : decode cL_same 66 = .ok (.iload 6, 2) := by decide +kernel
theorem dL_same_68 : decode cL_same 68 = .ok (.ifCond .gt 20, 3) := by decide +kernel
theorem dL_same_71 : decode cL_same 71 = .ok (.aload_n 0, 1) := by decide +kernel
theorem dL_same_72 : decode cL_same 72 = .ok (.iload 6, 2) := by decide +kernel
theorem dL_same_74 : decode cL_same 74 = .ok (.invokevirtual 108, 3) := by decide +kernel
theorem dL_same_77 : decode cL_same 77 = .ok (.aload_n 3, 1) := by decide +kernel
theorem dL_same_78 : decode cL_same 78 = .ok (.iconst 5, 1) := by decide +kernel
theorem dL_same_79 : decode cL_same 79 = .ok (.iload 6, 2) := by decide +kernel
theorem dL_same_81 : decode cL_same 81 = .ok (.imul, 1) := by decide +kernel
theorem dL_same_82 : decode cL_same 82 = .ok (.iconst 4, 1) := by decide +kernel
theorem dL_same_83 : decode cL_same 83 = .ok (.iadd, 1) := by decide +kernel
theorem dL_same_84 : decode cL_same 84 = .ok (.iaload, 1) := by decide +kernel
theorem dL_same_85 : decode cL_same 85 = .ok (.if_icmp .eq 5, 3) := by decide +kernel
theorem dL_same_88 : decode cL_same 88 = .ok (.iconst 0, 1) := by decide +kernel
theorem dL_same_89 : decode cL_same 89 = .ok (.ireturn, 1) := by decide +kernel
theorem dL_same_90 : decode cL_same 90 = .ok (.iload 7, 2) := by decide +kernel
theorem dL_same_92 : decode cL_same 92 = .ok (.ifCond .eq 37, 3) := by decide +kernel
theorem dL_same_95 : decode cL_same 95 = .ok (.iload 6, 2) := by decide +kernel
theorem dL_same_97 : decode cL_same 97 = .ok (.ifCond .le 32, 3) := by decide +kernel
theorem dL_same_100 : decode cL_same 100 = .ok (.iload 5, 2) := by decide +kernel
theorem dL_same_102 : decode cL_same 102 = .ok (.ifCond .lt 16, 3) := by decide +kernel
theorem dL_same_105 : decode cL_same 105 = .ok (.aload_n 3, 1) := by decide +kernel
theorem dL_same_106 : decode cL_same 106 = .ok (.iconst 5, 1) := by decide +kernel
theorem dL_same_107 : decode cL_same 107 = .ok (.iload 6, 2) := by decide +kernel
theorem dL_same_109 : decode cL_same 109 = .ok (.imul, 1) := by decide +kernel
theorem dL_same_110 : decode cL_same 110 = .ok (.iconst 2, 1) := by decide +kernel
theorem dL_same_111 : decode cL_same 111 = .ok (.iadd, 1) := by decide +kernel
theorem dL_same_112 : decode cL_same 112 = .ok (.iaload, 1) := by decide +kernel
theorem dL_same_113 : decode cL_same 113 = .ok (.iload 5, 2) := by decide +kernel
theorem dL_same_115 : decode cL_same 115 = .ok (.if_icmp .ge 14, 3) := by decide +kernel
theorem dL_same_118 : decode cL_same 118 = .ok (.aload_n 3, 1) := by decide +kernel
theorem dL_same_119 : decode cL_same 119 = .ok (.iconst 5, 1) := by decide +kernel
theorem dL_same_120 : decode cL_same 120 = .ok (.iload 6, 2) := by decide +kernel
theorem dL_same_122 : decode cL_same 122 = .ok (.imul, 1) := by decide +kernel
theorem dL_same_123 : decode cL_same 123 = .ok (.iconst 2, 1) := by decide +kernel
theorem dL_same_124 : decode cL_same 124 = .ok (.iadd, 1) := by decide +kernel
theorem dL_same_125 : decode cL_same 125 = .ok (.iaload, 1) := by decide +kernel
theorem dL_same_126 : decode cL_same 126 = .ok (.goto 5, 3) := by decide +kernel
theorem dL_same_129 : decode cL_same 129 = .ok (.iload 5, 2) := by decide +kernel
theorem dL_same_131 : decode cL_same 131 = .ok (.istore 5, 2) := by decide +kernel
theorem dL_same_133 : decode cL_same 133 = .ok (.iinc 6 1, 3) := by decide +kernel
theorem dL_same_136 : decode cL_same 136 = .ok (.goto (-130), 3) := by decide +kernel
theorem dL_same_139 : decode cL_same 139 = .ok (.iconst 0, 1) := by decide +kernel
theorem dL_same_140 : decode cL_same 140 = .ok (.istore 6, 2) := by decide +kernel
theorem dL_same_142 : decode cL_same 142 = .ok (.iload 6, 2) := by decide +kernel
theorem dL_same_144 : decode cL_same 144 = .ok (.aload_n 2, 1) := by decide +kernel
theorem dL_same_145 : decode cL_same 145 = .ok (.iconst 4, 1) := by decide +kernel
theorem dL_same_146 : decode cL_same 146 = .ok (.iaload, 1) := by decide +kernel
theorem dL_same_147 : decode cL_same 147 = .ok (.if_icmp .ge 91, 3) := by decide +kernel
theorem dL_same_150 : decode cL_same 150 = .ok (.iload 6, 2) := by decide +kernel
theorem dL_same_152 : decode cL_same 152 = .ok (.aload_n 2, 1) := by decide +kernel
theorem dL_same_153 : decode cL_same 153 = .ok (.aload_n 3, 1) := by decide +kernel
theorem dL_same_154 : decode cL_same 154 = .ok (.aload 4, 2) := by decide +kernel
theorem dL_same_156 : decode cL_same 156 = .ok (.invokestatic 27, 3) := by decide +kernel
theorem dL_same_159 : decode cL_same 159 = .ok (.istore 7, 2) := by decide +kernel
theorem dL_same_161 : decode cL_same 161 = .ok (.aload_n 0, 1) := by decide +kernel
theorem dL_same_162 : decode cL_same 162 = .ok (.iload 6, 2) := by decide +kernel
theorem dL_same_164 : decode cL_same 164 = .ok (.invokevirtual 111, 3) := by decide +kernel
theorem dL_same_167 : decode cL_same 167 = .ok (.iload 7, 2) := by decide +kernel
theorem dL_same_169 : decode cL_same 169 = .ok (.if_icmp .ne 21, 3) := by decide +kernel
theorem dL_same_172 : decode cL_same 172 = .ok (.aload_n 0, 1) := by decide +kernel
theorem dL_same_173 : decode cL_same 173 = .ok (.iload 6, 2) := by decide +kernel
theorem dL_same_175 : decode cL_same 175 = .ok (.invokevirtual 65, 3) := by decide +kernel
theorem dL_same_178 : decode cL_same 178 = .ok (.aload 4, 2) := by decide +kernel
theorem dL_same_180 : decode cL_same 180 = .ok (.iconst 5, 1) := by decide +kernel
theorem dL_same_181 : decode cL_same 181 = .ok (.iload 6, 2) := by decide +kernel
theorem dL_same_183 : decode cL_same 183 = .ok (.imul, 1) := by decide +kernel
theorem dL_same_184 : decode cL_same 184 = .ok (.iconst 2, 1) := by decide +kernel
theorem dL_same_185 : decode cL_same 185 = .ok (.iadd, 1) := by decide +kernel
theorem dL_same_186 : decode cL_same 186 = .ok (.iaload, 1) := by decide +kernel
theorem dL_same_187 : decode cL_same 187 = .ok (.if_icmp .eq 5, 3) := by decide +kernel
theorem dL_same_190 : decode cL_same 190 = .ok (.iconst 0, 1) := by decide +kernel
theorem dL_same_191 : decode cL_same 191 = .ok (.ireturn, 1) := by decide +kernel
theorem dL_same_192 : decode cL_same 192 = .ok (.iload 7, 2) := by decide +kernel
theorem dL_same_194 : decode cL_same 194 = .ok (.ifCond .eq 34, 3) := by decide +kernel
theorem dL_same_197 : decode cL_same 197 = .ok (.iload 5, 2) := by decide +kernel
theorem dL_same_199 : decode cL_same 199 = .ok (.ifCond .lt 17, 3) := by decide +kernel
theorem dL_same_202 : decode cL_same 202 = .ok (.aload 4, 2) := by decide +kernel
theorem dL_same_204 : decode cL_same 204 = .ok (.iconst 5, 1) := by decide +kernel
theorem dL_same_205 : decode cL_same 205 = .ok (.iload 6, 2) := by decide +kernel
theorem dL_same_207 : decode cL_same 207 = .ok (.imul, 1) := by decide +kernel
theorem dL_same_208 : decode cL_same 208 = .ok (.iconst 2, 1) := by decide +kernel
theorem dL_same_209 : decode cL_same 209 = .ok (.iadd, 1) := by decide +kernel
theorem dL_same_210 : decode cL_same 210 = .ok (.iaload, 1) := by decide +kernel
theorem dL_same_211 : decode cL_same 211 = .ok (.iload 5, 2) := by decide +kernel
theorem dL_same_213 : decode cL_same 213 = .ok (.if_icmp .ge 15, 3) := by decide +kernel
theorem dL_same_216 : decode cL_same 216 = .ok (.aload 4, 2) := by decide +kernel
theorem dL_same_218 : decode cL_same 218 = .ok (.iconst 5, 1) := by decide +kernel
theorem dL_same_219 : decode cL_same 219 = .ok (.iload 6, 2) := by decide +kernel
theorem dL_same_221 : decode cL_same 221 = .ok (.imul, 1) := by decide +kernel
theorem dL_same_222 : decode cL_same 222 = .ok (.iconst 2, 1) := by decide +kernel
theorem dL_same_223 : decode cL_same 223 = .ok (.iadd, 1) := by decide +kernel
theorem dL_same_224 : decode cL_same 224 = .ok (.iaload, 1) := by decide +kernel
theorem dL_same_225 : decode cL_same 225 = .ok (.goto 5, 3) := by decide +kernel
theorem dL_same_228 : decode cL_same 228 = .ok (.iload 5, 2) := by decide +kernel
theorem dL_same_230 : decode cL_same 230 = .ok (.istore 5, 2) := by decide +kernel
theorem dL_same_232 : decode cL_same 232 = .ok (.iinc 6 1, 3) := by decide +kernel
theorem dL_same_235 : decode cL_same 235 = .ok (.goto (-93), 3) := by decide +kernel
theorem dL_same_238 : decode cL_same 238 = .ok (.iload_n 1, 1) := by decide +kernel
theorem dL_same_239 : decode cL_same 239 = .ok (.aload_n 2, 1) := by decide +kernel
theorem dL_same_240 : decode cL_same 240 = .ok (.iconst 3, 1) := by decide +kernel
theorem dL_same_241 : decode cL_same 241 = .ok (.iaload, 1) := by decide +kernel
theorem dL_same_242 : decode cL_same 242 = .ok (.invokestatic 113, 3) := by decide +kernel
theorem dL_same_245 : decode cL_same 245 = .ok (.istore 6, 2) := by decide +kernel
theorem dL_same_247 : decode cL_same 247 = .ok (.iconst 0, 1) := by decide +kernel
theorem dL_same_248 : decode cL_same 248 = .ok (.istore 7, 2) := by decide +kernel
theorem dL_same_250 : decode cL_same 250 = .ok (.iconst 0, 1) := by decide +kernel
theorem dL_same_251 : decode cL_same 251 = .ok (.istore 8, 2) := by decide +kernel
theorem dL_same_253 : decode cL_same 253 = .ok (.iconst 1, 1) := by decide +kernel
theorem dL_same_254 : decode cL_same 254 = .ok (.istore 9, 2) := by decide +kernel
theorem dL_same_256 : decode cL_same 256 = .ok (.iload 9, 2) := by decide +kernel
theorem dL_same_258 : decode cL_same 258 = .ok (.aload_n 2, 1) := by decide +kernel
theorem dL_same_259 : decode cL_same 259 = .ok (.iconst 3, 1) := by decide +kernel
theorem dL_same_260 : decode cL_same 260 = .ok (.iaload, 1) := by decide +kernel
theorem dL_same_261 : decode cL_same 261 = .ok (.if_icmp .ge 71, 3) := by decide +kernel
theorem dL_same_264 : decode cL_same 264 = .ok (.iload 9, 2) := by decide +kernel
theorem dL_same_266 : decode cL_same 266 = .ok (.aload_n 2, 1) := by decide +kernel
theorem dL_same_267 : decode cL_same 267 = .ok (.aload_n 3, 1) := by decide +kernel
theorem dL_same_268 : decode cL_same 268 = .ok (.invokestatic 23, 3) := by decide +kernel
theorem dL_same_271 : decode cL_same 271 = .ok (.ifCond .eq 12, 3) := by decide +kernel
theorem dL_same_274 : decode cL_same 274 = .ok (.aload_n 3, 1) := by decide +kernel
theorem dL_same_275 : decode cL_same 275 = .ok (.iconst 5, 1) := by decide +kernel
theorem dL_same_276 : decode cL_same 276 = .ok (.iload 9, 2) := by decide +kernel
theorem dL_same_278 : decode cL_same 278 = .ok (.imul, 1) := by decide +kernel
theorem dL_same_279 : decode cL_same 279 = .ok (.iaload, 1) := by decide +kernel
theorem dL_same_280 : decode cL_same 280 = .ok (.goto 4, 3) := by decide +kernel
theorem dL_same_283 : decode cL_same 283 = .ok (.iconst (-1), 1) := by decide +kernel
theorem dL_same_284 : decode cL_same 284 = .ok (.istore 10, 2) := by decide +kernel
theorem dL_same_286 : decode cL_same 286 = .ok (.iload 10, 2) := by decide +kernel
theorem dL_same_288 : decode cL_same 288 = .ok (.ifCond .lt 21, 3) := by decide +kernel
theorem dL_same_291 : decode cL_same 291 = .ok (.iload 10, 2) := by decide +kernel
theorem dL_same_293 : decode cL_same 293 = .ok (.iload 6, 2) := by decide +kernel
theorem dL_same_295 : decode cL_same 295 = .ok (.if_icmp .eq 14, 3) := by decide +kernel
theorem dL_same_298 : decode cL_same 298 = .ok (.aload_n 3, 1) := by decide +kernel
theorem dL_same_299 : decode cL_same 299 = .ok (.iconst 5, 1) := by decide +kernel
theorem dL_same_300 : decode cL_same 300 = .ok (.iload 10, 2) := by decide +kernel
theorem dL_same_302 : decode cL_same 302 = .ok (.imul, 1) := by decide +kernel
theorem dL_same_303 : decode cL_same 303 = .ok (.iaload, 1) := by decide +kernel
theorem dL_same_304 : decode cL_same 304 = .ok (.istore 10, 2) := by decide +kernel
theorem dL_same_306 : decode cL_same 306 = .ok (.goto (-20), 3) := by decide +kernel
theorem dL_same_309 : decode cL_same 309 = .ok (.iload 7, 2) := by decide +kernel
theorem dL_same_311 : decode cL_same 311 = .ok (.iload 10, 2) := by decide +kernel
theorem dL_same_313 : decode cL_same 313 = .ok (.iload 6, 2) := by decide +kernel
theorem dL_same_315 : decode cL_same 315 = .ok (.if_icmp .ne 7, 3) := by decide +kernel
theorem dL_same_318 : decode cL_same 318 = .ok (.iconst 1, 1) := by decide +kernel
theorem dL_same_319 : decode cL_same 319 = .ok (.goto 4, 3) := by decide +kernel
theorem dL_same_322 : decode cL_same 322 = .ok (.iconst 0, 1) := by decide +kernel
theorem dL_same_323 : decode cL_same 323 = .ok (.iadd, 1) := by decide +kernel
theorem dL_same_324 : decode cL_same 324 = .ok (.istore 7, 2) := by decide +kernel
theorem dL_same_326 : decode cL_same 326 = .ok (.iinc 9 1, 3) := by decide +kernel
theorem dL_same_329 : decode cL_same 329 = .ok (.goto (-73), 3) := by decide +kernel
theorem dL_same_332 : decode cL_same 332 = .ok (.iconst 0, 1) := by decide +kernel
theorem dL_same_333 : decode cL_same 333 = .ok (.istore 9, 2) := by decide +kernel
theorem dL_same_335 : decode cL_same 335 = .ok (.iload 9, 2) := by decide +kernel
theorem dL_same_337 : decode cL_same 337 = .ok (.aload_n 2, 1) := by decide +kernel
theorem dL_same_338 : decode cL_same 338 = .ok (.iconst 4, 1) := by decide +kernel
theorem dL_same_339 : decode cL_same 339 = .ok (.iaload, 1) := by decide +kernel
theorem dL_same_340 : decode cL_same 340 = .ok (.if_icmp .ge 43, 3) := by decide +kernel
theorem dL_same_343 : decode cL_same 343 = .ok (.iload 8, 2) := by decide +kernel
theorem dL_same_345 : decode cL_same 345 = .ok (.aload 4, 2) := by decide +kernel
theorem dL_same_347 : decode cL_same 347 = .ok (.iconst 5, 1) := by decide +kernel
theorem dL_same_348 : decode cL_same 348 = .ok (.iload 9, 2) := by decide +kernel
theorem dL_same_350 : decode cL_same 350 = .ok (.imul, 1) := by decide +kernel
theorem dL_same_351 : decode cL_same 351 = .ok (.iaload, 1) := by decide +kernel
theorem dL_same_352 : decode cL_same 352 = .ok (.iload 6, 2) := by decide +kernel
theorem dL_same_354 : decode cL_same 354 = .ok (.if_icmp .ne 19, 3) := by decide +kernel
theorem dL_same_357 : decode cL_same 357 = .ok (.iload 9, 2) := by decide +kernel
theorem dL_same_359 : decode cL_same 359 = .ok (.aload_n 2, 1) := by decide +kernel
theorem dL_same_360 : decode cL_same 360 = .ok (.aload_n 3, 1) := by decide +kernel
theorem dL_same_361 : decode cL_same 361 = .ok (.aload 4, 2) := by decide +kernel
theorem dL_same_363 : decode cL_same 363 = .ok (.invokestatic 27, 3) := by decide +kernel
theorem dL_same_366 : decode cL_same 366 = .ok (.ifCond .eq 7, 3) := by decide +kernel
theorem dL_same_369 : decode cL_same 369 = .ok (.iconst 1, 1) := by decide +kernel
theorem dL_same_370 : decode cL_same 370 = .ok (.goto 4, 3) := by decide +kernel
theorem dL_same_373 : decode cL_same 373 = .ok (.iconst 0, 1) := by decide +kernel
theorem dL_same_374 : decode cL_same 374 = .ok (.iadd, 1) := by decide +kernel
theorem dL_same_375 : decode cL_same 375 = .ok (.istore 8, 2) := by decide +kernel
theorem dL_same_377 : decode cL_same 377 = .ok (.iinc 9 1, 3) := by decide +kernel
theorem dL_same_380 : decode cL_same 380 = .ok (.goto (-45), 3) := by decide +kernel
theorem dL_same_383 : decode cL_same 383 = .ok (.aload_n 0, 1) := by decide +kernel
theorem dL_same_384 : decode cL_same 384 = .ok (.iload 6, 2) := by decide +kernel
theorem dL_same_386 : decode cL_same 386 = .ok (.invokevirtual 116, 3) := by decide +kernel
theorem dL_same_389 : decode cL_same 389 = .ok (.iload 7, 2) := by decide +kernel
theorem dL_same_391 : decode cL_same 391 = .ok (.if_icmp .ne 58, 3) := by decide +kernel
theorem dL_same_394 : decode cL_same 394 = .ok (.aload_n 0, 1) := by decide +kernel
theorem dL_same_395 : decode cL_same 395 = .ok (.iload 6, 2) := by decide +kernel
theorem dL_same_397 : decode cL_same 397 = .ok (.invokevirtual 62, 3) := by decide +kernel
theorem dL_same_400 : decode cL_same 400 = .ok (.iload 8, 2) := by decide +kernel
theorem dL_same_402 : decode cL_same 402 = .ok (.if_icmp .ne 47, 3) := by decide +kernel
theorem dL_same_405 : decode cL_same 405 = .ok (.aload_n 0, 1) := by decide +kernel
theorem dL_same_406 : decode cL_same 406 = .ok (.iconst 5, 1) := by decide +kernel
theorem dL_same_407 : decode cL_same 407 = .ok (.aload_n 2, 1) := by decide +kernel
theorem dL_same_408 : decode cL_same 408 = .ok (.iconst 3, 1) := by decide +kernel
theorem dL_same_409 : decode cL_same 409 = .ok (.iaload, 1) := by decide +kernel
theorem dL_same_410 : decode cL_same 410 = .ok (.iconst 0, 1) := by decide +kernel
theorem dL_same_411 : decode cL_same 411 = .ok (.iconst 0, 1) := by decide +kernel
theorem dL_same_412 : decode cL_same 412 = .ok (.invokestatic 119, 3) := by decide +kernel
theorem dL_same_415 : decode cL_same 415 = .ok (.iconst 3, 1) := by decide +kernel
theorem dL_same_416 : decode cL_same 416 = .ok (.if_icmp .ne 33, 3) := by decide +kernel
end
section
theorem dL_same_419 : decode cL_same 419 = .ok (.aload_n 0, 1) := by decide +kernel
theorem dL_same_420 : decode cL_same 420 = .ok (.bipush 6, 2) := by decide +kernel
theorem dL_same_422 : decode cL_same 422 = .ok (.aload_n 2, 1) := by decide +kernel
theorem dL_same_423 : decode cL_same 423 = .ok (.iconst 4, 1) := by decide +kernel
theorem dL_same_424 : decode cL_same 424 = .ok (.iaload, 1) := by decide +kernel
theorem dL_same_425 : decode cL_same 425 = .ok (.iconst 0, 1) := by decide +kernel
theorem dL_same_426 : decode cL_same 426 = .ok (.iconst 0, 1) := by decide +kernel
theorem dL_same_427 : decode cL_same 427 = .ok (.invokestatic 119, 3) := by decide +kernel
theorem dL_same_430 : decode cL_same 430 = .ok (.iconst 3, 1) := by decide +kernel
theorem dL_same_431 : decode cL_same 431 = .ok (.if_icmp .ne 18, 3) := by decide +kernel
theorem dL_same_434 : decode cL_same 434 = .ok (.aload_n 0, 1) := by decide +kernel
theorem dL_same_435 : decode cL_same 435 = .ok (.bipush 8, 2) := by decide +kernel
theorem dL_same_437 : decode cL_same 437 = .ok (.aload_n 2, 1) := by decide +kernel
theorem dL_same_438 : decode cL_same 438 = .ok (.iconst 5, 1) := by decide +kernel
theorem dL_same_439 : decode cL_same 439 = .ok (.iaload, 1) := by decide +kernel
theorem dL_same_440 : decode cL_same 440 = .ok (.iconst 0, 1) := by decide +kernel
theorem dL_same_441 : decode cL_same 441 = .ok (.iconst 0, 1) := by decide +kernel
theorem dL_same_442 : decode cL_same 442 = .ok (.invokestatic 119, 3) := by decide +kernel
theorem dL_same_445 : decode cL_same 445 = .ok (.iconst 3, 1) := by decide +kernel
theorem dL_same_446 : decode cL_same 446 = .ok (.if_icmp .eq 5, 3) := by decide +kernel
theorem dL_same_449 : decode cL_same 449 = .ok (.iconst 0, 1) := by decide +kernel
theorem dL_same_450 : decode cL_same 450 = .ok (.ireturn, 1) := by decide +kernel
theorem dL_same_451 : decode cL_same 451 = .ok (.aload_n 0, 1) := by decide +kernel
theorem dL_same_452 : decode cL_same 452 = .ok (.invokevirtual 123, 3) := by decide +kernel
theorem dL_same_455 : decode cL_same 455 = .ok (.aload_n 2, 1) := by decide +kernel
theorem dL_same_456 : decode cL_same 456 = .ok (.aload_n 3, 1) := by decide +kernel
theorem dL_same_457 : decode cL_same 457 = .ok (.invokestatic 126, 3) := by decide +kernel
theorem dL_same_460 : decode cL_same 460 = .ok (.if_icmp .ne 50, 3) := by decide +kernel
theorem dL_same_463 : decode cL_same 463 = .ok (.aload_n 0, 1) := by decide +kernel
theorem dL_same_464 : decode cL_same 464 = .ok (.invokevirtual 130, 3) := by decide +kernel
theorem dL_same_467 : decode cL_same 467 = .ok (.aload_n 2, 1) := by decide +kernel
theorem dL_same_468 : decode cL_same 468 = .ok (.aload_n 3, 1) := by decide +kernel
theorem dL_same_469 : decode cL_same 469 = .ok (.aload 4, 2) := by decide +kernel
theorem dL_same_471 : decode cL_same 471 = .ok (.invokestatic 133, 3) := by decide +kernel
theorem dL_same_474 : decode cL_same 474 = .ok (.if_icmp .ne 36, 3) := by decide +kernel
theorem dL_same_477 : decode cL_same 477 = .ok (.aload_n 0, 1) := by decide +kernel
theorem dL_same_478 : decode cL_same 478 = .ok (.invokevirtual 137, 3) := by decide +kernel
theorem dL_same_481 : decode cL_same 481 = .ok (.iload 5, 2) := by decide +kernel
theorem dL_same_483 : decode cL_same 483 = .ok (.if_icmp .ne 27, 3) := by decide +kernel
theorem dL_same_486 : decode cL_same 486 = .ok (.aload_n 0, 1) := by decide +kernel
theorem dL_same_487 : decode cL_same 487 = .ok (.invokevirtual 140, 3) := by decide +kernel
theorem dL_same_490 : decode cL_same 490 = .ok (.aload_n 2, 1) := by decide +kernel
theorem dL_same_491 : decode cL_same 491 = .ok (.iconst 0, 1) := by decide +kernel
theorem dL_same_492 : decode cL_same 492 = .ok (.iaload, 1) := by decide +kernel
theorem dL_same_493 : decode cL_same 493 = .ok (.if_icmp .ne 17, 3) := by decide +kernel
theorem dL_same_496 : decode cL_same 496 = .ok (.aload_n 0, 1) := by decide +kernel
theorem dL_same_497 : decode cL_same 497 = .ok (.invokevirtual 84, 3) := by decide +kernel
theorem dL_same_500 : decode cL_same 500 = .ok (.aload_n 2, 1) := by decide +kernel
theorem dL_same_501 : decode cL_same 501 = .ok (.iconst 5, 1) := by decide +kernel
theorem dL_same_502 : decode cL_same 502 = .ok (.iaload, 1) := by decide +kernel
theorem dL_same_503 : decode cL_same 503 = .ok (.if_icmp .ne 7, 3) := by decide +kernel
theorem dL_same_506 : decode cL_same 506 = .ok (.iconst 1, 1) := by decide +kernel
theorem dL_same_507 : decode cL_same 507 = .ok (.goto 4, 3) := by decide +kernel
theorem dL_same_510 : decode cL_same 510 = .ok (.iconst 0, 1) := by decide +kernel
theorem dL_same_511 : decode cL_same 511 = .ok (.ireturn, 1) := by decide +kernel
set_option maxRecDepth 20000 in
theorem ggL_path_L_low : GoodIn wsL_path wsL_low := goodIn_r _ [4, 5] (by decide +kernel) (by decide +kernel)
set_option maxRecDepth 20000 in
theorem gL_path_L_low : GoodIn wsL_path (va_wsS RL 113 yL_low wsL_low) := goodIn_app (goodIn_of _ (by decide +kernel)) ggL_path_L_low
theorem dL_path_0 : decode cL_path 0 = .ok (.iconst 1, 1) := by decide +kernel
theorem dL_path_1 : decode cL_path 1 = .ok (.iload_n 0, 1) := by decide +kernel
theorem dL_path_2 : decode cL_path 2 = .ok (.iload_n 1, 1) := by decide +kernel
theorem dL_path_3 : decode cL_path 3 = .ok (.invokestatic 113, 3) := by decide +kernel
theorem dL_path_6 : decode cL_path 6 = .ok (.iadd, 1) := by decide +kernel
theorem dL_path_7 : decode cL_path 7 = .ok (.istore_n 2, 1) := by decide +kernel
theorem dL_path_8 : decode cL_path 8 = .ok (.iload_n 0, 1) := by decide +kernel
theorem dL_path_9 : decode cL_path 9 = .ok (.iconst 3, 1) := by decide +kernel
theorem dL_path_10 : decode cL_path 10 = .ok (.ishr, 1) := by decide +kernel
theorem dL_path_11 : decode cL_path 11 = .ok (.iconst 4, 1) := by decide +kernel
theorem dL_path_12 : decode cL_path 12 = .ok (.invokestatic 113, 3) := by decide +kernel
theorem dL_path_15 : decode cL_path 15 = .ok (.istore_n 3, 1) := by decide +kernel
theorem dL_path_16 : decode cL_path 16 = .ok (.iload_n 3, 1) := by decide +kernel
theorem dL_path_17 : decode cL_path 17 = .ok (.ifCond .le 28, 3) := by decide +kernel
theorem dL_path_20 : decode cL_path 20 = .ok (.bipush 10, 2) := by decide +kernel
theorem dL_path_22 : decode cL_path 22 = .ok (.iload_n 2, 1) := by decide +kernel
theorem dL_path_23 : decode cL_path 23 = .ok (.imul, 1) := by decide +kernel
theorem dL_path_24 : decode cL_path 24 = .ok (.iconst 1, 1) := by decide +kernel
theorem dL_path_25 : decode cL_path 25 = .ok (.iadd, 1) := by decide +kernel
theorem dL_path_26 : decode cL_path 26 = .ok (.iload_n 0, 1) := by decide +kernel
theorem dL_path_27 : decode cL_path 27 = .ok (.iconst 3, 1) := by decide +kernel
theorem dL_path_28 : decode cL_path 28 = .ok (.iconst 3, 1) := by decide +kernel
theorem dL_path_29 : decode cL_path 29 = .ok (.iload_n 3, 1) := by decide +kernel
theorem dL_path_30 : decode cL_path 30 = .ok (.imul, 1) := by decide +kernel
theorem dL_path_31 : decode cL_path 31 = .ok (.iadd, 1) := by decide +kernel
theorem dL_path_32 : decode cL_path 32 = .ok (.ishr, 1) := by decide +kernel
theorem dL_path_33 : decode cL_path 33 = .ok (.iload_n 1, 1) := by decide +kernel
theorem dL_path_34 : decode cL_path 34 = .ok (.invokestatic 113, 3) := by decide +kernel
theorem dL_path_37 : decode cL_path 37 = .ok (.iadd, 1) := by decide +kernel
theorem dL_path_38 : decode cL_path 38 = .ok (.istore_n 2, 1) := by decide +kernel
theorem dL_path_39 : decode cL_path 39 = .ok (.iinc 3 (-1), 3) := by decide +kernel
theorem dL_path_42 : decode cL_path 42 = .ok (.goto (-26), 3) := by decide +kernel
theorem dL_path_45 : decode cL_path 45 = .ok (.iload_n 2, 1) := by decide +kernel
theorem dL_path_46 : decode cL_path 46 = .ok (.ireturn, 1) := by decide +kernel
set_option maxRecDepth 20000 in
theorem ggL_law_X7_init : GoodIn wsL_law wsX7_init := goodIn_r _ [8, 9, 10, 11, 12, 13, 14, 15, 16, 17, 18, 19, 20, 21, 22, 23, 24, 25, 26, 27, 28, 29, 30, 31, 32, 33, 34, 35, 3, 36, 37, 38, 39, 40, 41, 42, 43, 44, 45, 46, 47, 48, 49, 50, 51, 52, 53, 54, 55, 56, 57, 58, 59, 60, 61, 62, 63, 64, 65, 66, 67, 68, 69, 70, 71, 72, 73, 74, 75, 76, 77, 78, 79, 80, 81, 82, 83, 84, 85, 86, 87, 88, 4, 89, 90, 636, 637, 638, 639, 640, 630, 631, 632, 633, 634, 635, 641, 642, 643, 644, 645, 646, 647, 648, 649, 650, 651, 652, 653, 654, 655, 656, 657, 658, 659, 660, 661, 662, 663, 664, 665, 666] (by decide +kernel) (by decide +kernel)
set_option maxRecDepth 20000 in
theorem gL_law_X7_init : GoodIn wsL_law (wsX7_init) := ggL_law_X7_init
set_option maxRecDepth 20000 in
theorem ggL_law_X7_policy : GoodIn wsL_law wsX7_policy := goodIn_ca (goodIn_r _ [94, 95, 96, 15, 97, 98, 99, 14, 100, 41, 101, 102, 103, 104, 630, 631, 632, 633, 634, 635, 636, 637, 638, 639, 640] (by decide +kernel) (by decide +kernel)) (goodIn_sub (fun _ h => List.mem_append_left _ (List.mem_append_left _ (List.mem_append_right _ h))) (by decide +kernel))
set_option maxRecDepth 20000 in
theorem gL_law_X7_policy : GoodIn wsL_law (wsV RL 146 RX7 yX7_policy wsX7_policy) := goodIn_app (goodIn_of _ (by decide +kernel)) ggL_law_X7_policy
set_option maxRecDepth 20000 in
theorem ggL_law_L_cell : GoodIn wsL_law wsL_cell := goodIn_r _ [108, 109, 110] (by decide +kernel) (by decide +kernel)
set_option maxRecDepth 20000 in
theorem gL_law_L_cell : GoodIn wsL_law (va_wsS RL 149 yL_cell wsL_cell) := goodIn_app (goodIn_of _ (by decide +kernel)) ggL_law_L_cell
set_option maxRecDepth 20000 in
theorem ggL_law_L_low : GoodIn wsL_law wsL_low := goodIn_r _ [113, 114] (by decide +kernel) (by decide +kernel)
set_option maxRecDepth 20000 in
theorem gL_law_L_low : GoodIn wsL_law (va_wsS RL 113 yL_low wsL_low) := goodIn_app (goodIn_of _ (by decide +kernel)) ggL_law_L_low
set_option maxRecDepth 20000 in
theorem ggL_law_L_lives : GoodIn wsL_law wsL_lives := goodIn_r _ [117] (by decide +kernel) (by decide +kernel)
set_option maxRecDepth 20000 in
theorem gL_law_L_lives : GoodIn wsL_law (va_wsS RL 23 yL_lives wsL_lives) := goodIn_app (goodIn_of _ (by decide +kernel)) ggL_law_L_lives
set_option maxRecDepth 20000 in
theorem ggL_law_L_living : GoodIn wsL_law wsL_living := goodIn_r _ [120, 115, 116, 107, 117] (by decide +kernel) (by decide +kernel)
set_option maxRecDepth 20000 in
theorem gL_law_L_living : GoodIn wsL_law (va_wsS RL 126 yL_living wsL_living) := goodIn_app (goodIn_of _ (by decide +kernel)) ggL_law_L_living
set_option maxRecDepth 20000 in
theorem ggL_law_L_working : GoodIn wsL_law wsL_working := goodIn_r _ [123, 124, 125, 107, 126, 115, 116, 117] (by decide +kernel) (by decide +kernel)
set_option maxRecDepth 20000 in
theorem gL_law_L_working : GoodIn wsL_law (va_wsS RL 133 yL_working wsL_working) := goodIn_app (goodIn_of _ (by decide +kernel)) ggL_law_L_working
set_option maxRecDepth 20000 in
theorem ggL_law_L_path : GoodIn wsL_law wsL_path := goodIn_r _ [129, 111, 112, 107, 113, 114] (by decide +kernel) (by decide +kernel)
set_option maxRecDepth 20000 in
theorem gL_law_L_path : GoodIn wsL_law (va_wsS RL 153 yL_path wsL_path) := goodIn_app (goodIn_of _ (by decide +kernel)) ggL_law_L_path
set_option maxRecDepth 20000 in
theorem ggL_law_X7_allow : GoodIn wsL_law wsX7_allow := goodIn_ca (goodIn_ca (goodIn_ca (goodIn_r _ [133, 134, 135, 95, 96, 15, 136, 137, 138, 2, 139, 140, 141, 142, 143, 144, 14, 145, 41, 146, 147, 148, 149, 150, 151, 152, 153, 154, 155, 156, 157, 158, 159, 160, 37, 39, 161, 162, 163, 164, 36, 165, 166, 167, 168, 169, 170, 40, 171, 172, 173, 174, 175, 630, 631, 632, 633, 634, 635, 636, 637, 638, 639, 640] (by decide +kernel) (by decide +kernel)) (goodIn_sub (fun _ h => List.mem_append_left _ (List.mem_append_right _ h)) (by decide +kernel))) (goodIn_sub (fun _ h => List.mem_append_left _ (List.mem_append_left _ (List.mem_append_right _ h))) (by decide +kernel))) (goodIn_sub (fun _ h => List.mem_append_right _ h) (by decide +kernel))
set_option maxRecDepth 20000 in
theorem gL_law_X7_allow : GoodIn wsL_law (wsV RL 156 RX7 yX7_allow wsX7_allow) := goodIn_app (goodIn_of _ (by decide +kernel)) ggL_law_X7_allow
set_option maxRecDepth 20000 in
theorem ggL_law_X7_mount : GoodIn wsL_law wsX7_mount := goodIn_ca (goodIn_ca (goodIn_r _ [179, 95, 96, 19, 180, 181, 2, 182, 134, 135, 183, 184, 148, 185, 150, 151, 152, 153, 186, 187, 188, 154, 155, 156, 189, 190, 191, 18, 192, 48, 45, 193, 194, 195, 196, 197, 198, 199, 200, 46, 47, 201, 630, 631, 632, 633, 634, 635, 641, 642, 643, 644] (by decide +kernel) (by decide +kernel)) (goodIn_sub (fun _ h => List.mem_append_left _ (List.mem_append_left _ (List.mem_append_right _ h))) (by decide +kernel))) (goodIn_sub (fun _ h => List.mem_append_left _ (List.mem_append_right _ h)) (by decide +kernel))
set_option maxRecDepth 20000 in
theorem gL_law_X7_mount : GoodIn wsL_law (wsV RL 160 RX7 yX7_mount wsX7_mount) := goodIn_app (goodIn_of _ (by decide +kernel)) ggL_law_X7_mount
set_option maxRecDepth 20000 in
theorem ggL_law_L_refused : GoodIn wsL_law wsL_refused := goodIn_ca (goodIn_ca (goodIn_ca (goodIn_r _ [204, 205, 206, 207, 208, 209, 210, 2, 211, 134, 135, 95, 96, 23, 32, 31, 212, 213, 214, 215, 140, 141, 216, 75, 76, 77, 56, 78, 63, 217, 218, 219, 220, 15, 221, 222, 223, 14, 224, 41, 225, 226, 227, 22, 228, 53, 74, 186, 187, 188, 154, 155, 156, 229, 230, 231, 232, 233, 234, 235, 236, 237, 62, 238, 239, 240, 241, 242, 243, 244, 245, 246, 64, 247, 248, 249, 250, 251, 252, 66, 67, 68, 69, 59, 60, 61, 253, 71, 72, 73, 52, 54, 254, 255, 256, 30, 257, 90, 258, 89, 86, 87, 88, 259, 260, 261, 262, 263, 264, 265, 266, 267, 268, 269, 270, 271, 272, 273, 274, 275, 276, 277, 278, 279, 280, 281, 282, 283, 284, 285, 286, 287, 288, 289, 290, 291, 292, 293, 294, 295, 296, 297, 298, 299, 300, 301, 302, 303, 304, 305, 306, 307, 308, 309, 27, 310, 311, 312, 313, 314, 315, 316, 317, 318, 319, 320, 321, 322, 323, 26, 324, 81, 325, 326, 327, 328, 329, 330, 331, 332, 333, 334, 335, 336, 337, 338, 339, 340, 341, 342, 343, 344, 345, 346, 347, 348, 349, 350, 351, 352, 353, 354, 355, 356, 357, 358, 359, 360, 361, 362, 363, 364, 365, 366, 367, 368, 369, 370, 371, 372, 373, 374, 375, 376, 377, 378, 379, 380, 381, 180, 181, 182, 183, 184, 148, 185, 150, 151, 152, 153, 382, 383, 384, 385, 19, 386, 387, 388, 389, 390, 391, 392, 18, 393, 48, 45, 394, 395, 396, 397, 398, 399, 400, 401, 402, 403, 404, 405, 406, 407, 408, 409, 410, 411, 412, 413, 414, 37, 39, 40, 161, 162, 163, 164, 36, 165, 143, 144, 145, 415, 416, 417, 418, 419, 420, 421, 422, 423, 424, 425, 426, 427, 428, 429, 430, 431, 432, 433, 434, 435, 436, 437, 438, 439, 440, 46, 441, 442, 443, 444, 445, 446, 447, 448, 47, 449, 450, 451, 452, 453, 454, 455, 82, 456, 457, 458, 459, 460, 461, 462, 463, 464, 465, 466, 467, 468, 469, 470, 471, 472, 630, 631, 632, 633, 634, 635, 654, 655, 656, 657, 658, 659, 660, 661, 645, 646, 647, 648, 649, 650, 651, 652, 653, 636, 637, 638, 639, 640, 662, 663, 664, 665, 666, 641, 642, 643, 644] (by decide +kernel) (by decide +kernel)) (goodIn_sub (fun _ h => List.mem_append_left _ (List.mem_append_right _ h)) (by decide +kernel))) (goodIn_sub (fun _ h => List.mem_append_left _ (List.mem_append_left _ (List.mem_append_right _ h))) (by decide +kernel))) (goodIn_sub (fun _ h => List.mem_append_right _ h) (by decide +kernel))
set_option maxRecDepth 20000 in
theorem gL_law_L_refused : GoodIn wsL_law (va_wsS RL 119 yL_refused wsL_refused) := goodIn_app (goodIn_of _ (by decide +kernel)) ggL_law_L_refused
set_option maxRecDepth 20000 in
theorem ggL_law_X7_create : GoodIn wsL_law wsX7_create := goodIn_ca (goodIn_ca (goodIn_ca (goodIn_r _ [211, 134, 135, 95, 96, 23, 32, 31, 212, 213, 214, 2, 215, 140, 141, 216, 75, 76, 77, 56, 78, 63, 217, 218, 219, 220, 15, 221, 222, 223, 14, 224, 41, 225, 226, 227, 22, 228, 53, 74, 186, 187, 188, 154, 155, 156, 229, 230, 231, 232, 233, 234, 235, 236, 237, 62, 238, 239, 240, 241, 242, 243, 244, 245, 246, 64, 247, 248, 249, 250, 251, 252, 66, 67, 68, 69, 59, 60, 61, 253, 71, 72, 73, 52, 54, 254, 255, 256, 30, 257, 90, 258, 89, 86, 87, 88, 259, 260, 261, 262, 263, 630, 631, 632, 633, 634, 635, 654, 655, 656, 657, 658, 659, 660, 661, 645, 646, 647, 648, 649, 650, 651, 652, 653, 636, 637, 638, 639, 640, 662, 663, 664, 665, 666] (by decide +kernel) (by decide +kernel)) (goodIn_sub (fun _ h => List.mem_append_left _ (List.mem_append_right _ h)) (by decide +kernel))) (goodIn_sub (fun _ h => List.mem_append_left _ (List.mem_append_left _ (List.mem_append_right _ h))) (by decide +kernel))) (goodIn_sub (fun _ h => List.mem_append_right _ h) (by decide +kernel))
set_option maxRecDepth 20000 in
theorem gL_law_X7_create : GoodIn wsL_law (wsV RL 43 RX7 yX7_create wsX7_create) := goodIn_app (goodIn_of _ (by decide +kernel)) ggL_law_X7_create
set_option maxRecDepth 20000 in
theorem ggL_law_L_writes : GoodIn wsL_law wsL_writes := goodIn_ca (goodIn_r _ [475, 476, 477, 478, 479, 480, 2, 481, 31, 482, 483, 484, 30, 485, 90, 456, 457, 458, 459, 460, 461, 462, 463, 140, 141, 464, 465, 466, 467, 468, 469, 470, 471, 86, 472, 486, 487, 488, 489, 490, 491, 492, 493, 87, 494, 495, 496, 497, 498, 499, 500, 501, 88, 502, 503, 504, 505, 506, 507, 508, 509, 89, 630, 631, 632, 633, 634, 635, 662, 663, 664, 665, 666] (by decide +kernel) (by decide +kernel)) (goodIn_sub (fun _ h => List.mem_append_right _ h) (by decide +kernel))
set_option maxRecDepth 20000 in
theorem gL_law_L_writes : GoodIn wsL_law (va_wsS RL 163 yL_writes wsL_writes) := goodIn_app (goodIn_of _ (by decide +kernel)) ggL_law_L_writes
set_option maxRecDepth 20000 in
theorem ggL_law_X7_renew : GoodIn wsL_law wsX7_renew := goodIn_ca (goodIn_ca (goodIn_ca (goodIn_r _ [267, 23, 32, 31, 212, 213, 214, 2, 215, 140, 141, 216, 75, 76, 77, 56, 78, 63, 154, 155, 156, 134, 135, 268, 269, 270, 271, 95, 96, 229, 230, 231, 232, 233, 234, 235, 236, 237, 62, 238, 239, 240, 241, 272, 273, 274, 275, 276, 59, 61, 60, 277, 278, 279, 280, 281, 282, 283, 284, 285, 286, 287, 288, 254, 255, 256, 30, 257, 90, 258, 89, 86, 87, 88, 259, 260, 261, 262, 263, 630, 631, 632, 633, 634, 635, 654, 655, 656, 657, 658, 659, 660, 661, 645, 646, 647, 648, 649, 650, 651, 652, 653, 662, 663, 664, 665, 666] (by decide +kernel) (by decide +kernel)) (goodIn_sub (fun _ h => List.mem_append_right _ h) (by decide +kernel))) (goodIn_sub (fun _ h => List.mem_append_left _ (List.mem_append_right _ h)) (by decide +kernel))) (goodIn_sub (fun _ h => List.mem_append_left _ (List.mem_append_left _ (List.mem_append_right _ h))) (by decide +kernel))
set_option maxRecDepth 20000 in
theorem gL_law_X7_renew : GoodIn wsL_law (wsV RL 49 RX7 yX7_renew wsX7_renew) := goodIn_app (goodIn_of _ (by decide +kernel)) ggL_law_X7_renew
set_option maxRecDepth 20000 in
theorem ggL_law_X7_revokeAlone : GoodIn wsL_law wsX7_revokeAlone := goodIn_ca (goodIn_ca (goodIn_r _ [335, 23, 212, 213, 214, 2, 215, 140, 141, 216, 75, 76, 77, 56, 78, 63, 268, 269, 270, 271, 95, 96, 229, 230, 231, 232, 233, 234, 235, 236, 237, 62, 238, 239, 240, 241, 336, 337, 338, 22, 339, 52, 314, 315, 316, 317, 318, 319, 293, 294, 295, 296, 31, 32, 297, 298, 299, 300, 301, 64, 302, 303, 304, 305, 306, 307, 308, 309, 27, 310, 311, 312, 313, 320, 321, 322, 323, 26, 324, 81, 325, 326, 327, 328, 329, 330, 331, 254, 255, 256, 30, 257, 90, 258, 89, 86, 87, 88, 259, 260, 261, 262, 263, 630, 631, 632, 633, 634, 635, 654, 655, 656, 657, 658, 659, 660, 661, 645, 646, 647, 648, 649, 650, 651, 652, 653, 662, 663, 664, 665, 666] (by decide +kernel) (by decide +kernel)) (goodIn_sub (fun _ h => List.mem_append_right _ h) (by decide +kernel))) (goodIn_sub (fun _ h => List.mem_append_left _ (List.mem_append_left _ (List.mem_append_right _ h))) (by decide +kernel))
set_option maxRecDepth 20000 in
theorem gL_law_X7_revokeAlone : GoodIn wsL_law (wsV RL 56 RX7 yX7_revokeAlone wsX7_revokeAlone) := goodIn_app (goodIn_of _ (by decide +kernel)) ggL_law_X7_revokeAlone
set_option maxRecDepth 20000 in
theorem ggL_law_X7_revoke : GoodIn wsL_law wsX7_revoke := goodIn_ca (goodIn_ca (goodIn_r _ [292, 212, 213, 214, 2, 215, 140, 141, 23, 216, 75, 76, 77, 56, 78, 63, 268, 269, 270, 271, 95, 96, 229, 230, 231, 232, 233, 234, 235, 236, 237, 62, 238, 239, 240, 241, 293, 294, 295, 296, 31, 32, 297, 298, 299, 300, 301, 64, 302, 303, 304, 305, 306, 307, 308, 309, 27, 310, 311, 312, 22, 313, 52, 314, 315, 316, 317, 318, 319, 320, 321, 322, 323, 26, 324, 81, 325, 326, 327, 328, 329, 330, 331, 254, 255, 256, 30, 257, 90, 258, 89, 86, 87, 88, 259, 260, 261, 262, 263, 630, 631, 632, 633, 634, 635, 654, 655, 656, 657, 658, 659, 660, 661, 645, 646, 647, 648, 649, 650, 651, 652, 653, 662, 663, 664, 665, 666] (by decide +kernel) (by decide +kernel)) (goodIn_sub (fun _ h => List.mem_append_right _ h) (by decide +kernel))) (goodIn_sub (fun _ h => List.mem_append_left _ (List.mem_append_left _ (List.mem_append_right _ h))) (by decide +kernel))
set_option maxRecDepth 20000 in
theorem gL_law_X7_revoke : GoodIn wsL_law (wsV RL 53 RX7 yX7_revoke wsX7_revoke) := goodIn_app (goodIn_of _ (by decide +kernel)) ggL_law_X7_revoke
set_option maxRecDepth 20000 in
theorem ggL_law_L_why : GoodIn wsL_law wsL_why := goodIn_r _ [512, 115, 116, 107, 117, 513, 514, 515, 516, 517, 518, 519, 520, 521, 522, 523, 524, 525, 526, 527, 528, 529, 530] (by decide +kernel) (by decide +kernel)
set_option maxRecDepth 20000 in
theorem gL_law_L_why : GoodIn wsL_law (va_wsS RL 167 yL_why wsL_why) := goodIn_app (goodIn_of _ (by decide +kernel)) ggL_law_L_why
set_option maxRecDepth 20000 in
theorem ggL_law_X7_whyDenied : GoodIn wsL_law wsX7_whyDenied := goodIn_ca (goodIn_ca (goodIn_r _ [534, 212, 213, 214, 2, 215, 140, 141, 23, 216, 75, 76, 77, 56, 78, 63, 180, 181, 182, 134, 135, 183, 184, 148, 185, 150, 151, 152, 153, 382, 383, 384, 385, 19, 233, 234, 235, 236, 237, 62, 238, 239, 240, 241, 386, 387, 388, 22, 389, 54, 74, 390, 391, 392, 18, 393, 48, 45, 394, 395, 396, 397, 398, 399, 400, 401, 402, 403, 404, 405, 406, 15, 225, 226, 227, 228, 53, 407, 408, 409, 14, 410, 41, 411, 412, 413, 414, 37, 39, 40, 161, 162, 163, 164, 36, 165, 143, 144, 145, 415, 416, 417, 418, 419, 420, 421, 422, 630, 631, 632, 633, 634, 635, 654, 655, 656, 657, 658, 659, 660, 661, 645, 646, 647, 648, 649, 650, 651, 652, 653, 641, 642, 643, 644, 636, 637, 638, 639, 640] (by decide +kernel) (by decide +kernel)) (goodIn_sub (fun _ h => List.mem_append_right _ h) (by decide +kernel))) (goodIn_sub (fun _ h => List.mem_append_left _ (List.mem_append_right _ h)) (by decide +kernel))
set_option maxRecDepth 20000 in
theorem gL_law_X7_whyDenied : GoodIn wsL_law (wsV RL 171 RX7 yX7_whyDenied wsX7_whyDenied) := goodIn_app (goodIn_of _ (by decide +kernel)) ggL_law_X7_whyDenied
set_option maxRecDepth 20000 in
theorem ggL_law_X7_capabilities : GoodIn wsL_law wsX7_capabilities := goodIn_ca (goodIn_ca (goodIn_r _ [538, 212, 213, 214, 2, 215, 140, 141, 23, 216, 75, 76, 77, 56, 78, 63, 180, 181, 182, 134, 135, 183, 184, 148, 185, 150, 151, 152, 153, 403, 404, 405, 406, 15, 225, 226, 227, 22, 228, 53, 74, 407, 408, 409, 14, 410, 41, 411, 412, 413, 414, 37, 39, 40, 161, 162, 163, 164, 36, 165, 143, 144, 145, 415, 416, 417, 397, 398, 399, 400, 401, 402, 418, 419, 420, 421, 422, 630, 631, 632, 633, 634, 635, 654, 655, 656, 657, 658, 659, 660, 661, 645, 646, 647, 648, 649, 650, 651, 652, 653, 636, 637, 638, 639, 640] (by decide +kernel) (by decide +kernel)) (goodIn_sub (fun _ h => List.mem_append_right _ h) (by decide +kernel))) (goodIn_sub (fun _ h => List.mem_append_left _ (List.mem_append_right _ h)) (by decide +kernel))
set_option maxRecDepth 20000 in
theorem gL_law_X7_capabilities : GoodIn wsL_law (wsV RL 174 RX7 yX7_capabilities wsX7_capabilities) := goodIn_app (goodIn_of _ (by decide +kernel)) ggL_law_X7_capabilities
set_option maxRecDepth 20000 in
theorem ggL_law_L_can : GoodIn wsL_law wsL_can := goodIn_r _ [527, 528, 529, 107, 530, 519, 520, 521, 522, 523, 524] (by decide +kernel) (by decide +kernel)
set_option maxRecDepth 20000 in
theorem gL_law_L_can : GoodIn wsL_law (va_wsS RL 39 yL_can wsL_can) := goodIn_app (goodIn_of _ (by decide +kernel)) ggL_law_L_can
set_option maxRecDepth 20000 in
theorem ggL_law_L_mountFor : GoodIn wsL_law wsL_mountFor := goodIn_r _ [515, 516, 517, 107, 518, 519, 520, 521, 522, 523, 524] (by decide +kernel) (by decide +kernel)
set_option maxRecDepth 20000 in
theorem gL_law_L_mountFor : GoodIn wsL_law (va_wsS RL 35 yL_mountFor wsL_mountFor) := goodIn_app (goodIn_of _ (by decide +kernel)) ggL_law_L_mountFor
set_option maxRecDepth 20000 in
theorem ggL_law_X7_request : GoodIn wsL_law wsX7_request := goodIn_ca (goodIn_ca (goodIn_ca (goodIn_r _ [381, 95, 96, 27, 23, 31, 32, 212, 213, 214, 2, 215, 140, 141, 216, 75, 76, 77, 56, 78, 63, 180, 181, 182, 134, 135, 183, 184, 148, 185, 150, 151, 152, 153, 382, 383, 384, 385, 19, 233, 234, 235, 236, 237, 62, 238, 239, 240, 241, 386, 387, 388, 22, 389, 54, 74, 390, 391, 392, 18, 393, 48, 45, 394, 395, 396, 397, 398, 399, 400, 401, 402, 403, 404, 405, 406, 15, 225, 226, 227, 228, 53, 407, 408, 409, 14, 410, 41, 411, 412, 413, 414, 37, 39, 40, 161, 162, 163, 164, 36, 165, 143, 144, 145, 415, 416, 417, 418, 419, 420, 421, 422, 423, 424, 425, 245, 246, 64, 426, 427, 428, 250, 251, 429, 430, 431, 432, 319, 254, 255, 256, 30, 257, 90, 258, 89, 86, 87, 88, 259, 260, 261, 262, 263, 433, 434, 435, 436, 437, 438, 439, 440, 46, 441, 442, 443, 444, 445, 446, 447, 448, 47, 449, 450, 451, 68, 69, 59, 60, 61, 452, 453, 454, 26, 455, 81, 82, 364, 349, 350, 630, 631, 632, 633, 634, 635, 654, 655, 656, 657, 658, 659, 660, 661, 645, 646, 647, 648, 649, 650, 651, 652, 653, 641, 642, 643, 644, 636, 637, 638, 639, 640, 662, 663, 664, 665, 666] (by decide +kernel) (by decide +kernel)) (goodIn_sub (fun _ h => List.mem_append_left _ (List.mem_append_left _ (List.mem_append_right _ h))) (by decide +kernel))) (goodIn_sub (fun _ h => List.mem_append_right _ h) (by decide +kernel))) (goodIn_sub (fun _ h => List.mem_append_left _ (List.mem_append_right _ h)) (by decide +kernel))
set_option maxRecDepth 20000 in
theorem gL_law_X7_request : GoodIn wsL_law (wsV RL 68 RX7 yX7_request wsX7_request) := goodIn_app (goodIn_of _ (by decide +kernel)) ggL_law_X7_request
set_option maxRecDepth 20000 in
theorem ggL_law_L_works : GoodIn wsL_law wsL_works := goodIn_r _ [126, 115, 116, 107, 117] (by decide +kernel) (by decide +kernel)
set_option maxRecDepth 20000 in
theorem gL_law_L_works : GoodIn wsL_law (va_wsS RL 27 yL_works wsL_works) := goodIn_app (goodIn_of _ (by decide +kernel)) ggL_law_L_works
set_option maxRecDepth 20000 in
theorem ggL_law_X7_renewCredential : GoodIn wsL_law wsX7_renewCredential := goodIn_ca (goodIn_ca (goodIn_ca (goodIn_r _ [343, 95, 96, 27, 32, 31, 344, 345, 346, 2, 347, 140, 141, 348, 349, 350, 77, 56, 78, 63, 154, 155, 156, 134, 135, 351, 352, 353, 236, 237, 62, 238, 239, 240, 241, 354, 355, 356, 275, 276, 59, 61, 60, 277, 278, 279, 280, 281, 282, 283, 357, 358, 359, 287, 288, 360, 361, 362, 26, 363, 81, 364, 254, 255, 256, 30, 257, 90, 258, 89, 86, 87, 88, 259, 260, 261, 262, 263, 630, 631, 632, 633, 634, 635, 654, 655, 656, 657, 658, 659, 660, 661, 645, 646, 647, 648, 649, 650, 651, 652, 653, 662, 663, 664, 665, 666] (by decide +kernel) (by decide +kernel)) (goodIn_sub (fun _ h => List.mem_append_left _ (List.mem_append_left _ (List.mem_append_right _ h))) (by decide +kernel))) (goodIn_sub (fun _ h => List.mem_append_right _ h) (by decide +kernel))) (goodIn_sub (fun _ h => List.mem_append_left _ (List.mem_append_right _ h)) (by decide +kernel))
set_option maxRecDepth 20000 in
theorem gL_law_X7_renewCredential : GoodIn wsL_law (wsV RL 59 RX7 yX7_renewCredential wsX7_renewCredential) := goodIn_app (goodIn_of _ (by decide +kernel)) ggL_law_X7_renewCredential
set_option maxRecDepth 20000 in
theorem ggL_law_L_isBelow : GoodIn wsL_law wsL_isBelow := goodIn_r _ [518, 519, 520, 107, 521, 522, 523, 524] (by decide +kernel) (by decide +kernel)
set_option maxRecDepth 20000 in
theorem gL_law_L_isBelow : GoodIn wsL_law (va_wsS RL 31 yL_isBelow wsL_isBelow) := goodIn_app (goodIn_of _ (by decide +kernel)) ggL_law_L_isBelow
set_option maxRecDepth 20000 in
theorem ggL_law_X7_revokeBelow : GoodIn wsL_law wsX7_revokeBelow := goodIn_ca (goodIn_r _ [542, 27, 31, 32, 180, 181, 2, 182, 134, 135, 183, 184, 148, 185, 150, 151, 152, 153, 543, 544, 545, 26, 546, 82, 325, 326, 327, 317, 56, 318, 63, 547, 395, 396, 397, 398, 399, 400, 401, 402, 329, 330, 331, 300, 301, 62, 64, 302, 303, 304, 236, 237, 238, 239, 240, 77, 78, 241, 305, 254, 255, 256, 30, 257, 90, 258, 89, 86, 87, 88, 259, 260, 261, 262, 263, 630, 631, 632, 633, 634, 635, 654, 655, 656, 657, 658, 659, 660, 661, 645, 646, 647, 648, 649, 650, 651, 652, 653, 662, 663, 664, 665, 666] (by decide +kernel) (by decide +kernel)) (goodIn_sub (fun _ h => List.mem_append_left _ (List.mem_append_right _ h)) (by decide +kernel))
set_option maxRecDepth 20000 in
theorem gL_law_X7_revokeBelow : GoodIn wsL_law (wsV RL 177 RX7 yX7_revokeBelow wsX7_revokeBelow) := goodIn_app (goodIn_of _ (by decide +kernel)) ggL_law_X7_revokeBelow
set_option maxRecDepth 20000 in
theorem ggL_law_X7_pass : GoodIn wsL_law wsX7_pass := goodIn_ca (goodIn_r _ [551, 32, 23, 27, 31, 154, 155, 2, 156, 134, 135, 552, 553, 554, 555, 56, 556, 63, 60, 557, 558, 559, 300, 301, 62, 64, 302, 303, 304, 236, 237, 238, 239, 240, 77, 78, 241, 305, 560, 561, 562, 563, 306, 307, 308, 309, 310, 311, 312, 22, 313, 52, 314, 315, 316, 317, 318, 319, 234, 235, 320, 298, 299, 321, 322, 323, 26, 324, 81, 325, 326, 327, 328, 329, 330, 331, 254, 255, 256, 30, 257, 90, 258, 89, 86, 87, 88, 259, 260, 261, 262, 263, 630, 631, 632, 633, 634, 635, 654, 655, 656, 657, 658, 659, 660, 661, 645, 646, 647, 648, 649, 650, 651, 652, 653, 662, 663, 664, 665, 666] (by decide +kernel) (by decide +kernel)) (goodIn_sub (fun _ h => List.mem_append_left _ (List.mem_append_right _ h)) (by decide +kernel))
set_option maxRecDepth 20000 in
theorem gL_law_X7_pass : GoodIn wsL_law (wsV RL 180 RX7 yX7_pass wsX7_pass) := goodIn_app (goodIn_of _ (by decide +kernel)) ggL_law_X7_pass
set_option maxRecDepth 20000 in
theorem goodIn_cons9 {big a : List Cond} {c : Cond} (h1 : GoodIn big [c]) (h2 : GoodIn big a) : GoodIn big (c :: a) := fun w h => (List.mem_cons.mp h).elim (fun e => h1 w (by rw [e]; exact List.mem_cons_self)) (h2 w)
theorem pLS_1 : GoodIn wsL_law wsL_same_r1 := goodIn_r _ [115, 116, 107, 117, 567, 568, 569, 2, 570, 23, 212, 213, 214, 215, 140, 141, 216, 75, 76, 77, 56, 78, 63, 233] (by decide +kernel) (by decide +kernel)
theorem pLS_2 : GoodIn wsL_law wsL_same_r2 := goodIn_r _ [234, 235, 236, 237, 62, 238, 239, 240, 241, 571, 572, 573, 574, 575, 576, 577, 22, 578, 52, 74, 579, 580, 581, 582] (by decide +kernel) (by decide +kernel)
theorem pLS_3 : GoodIn wsL_law wsL_same_r3 := goodIn_r _ [284, 285, 286, 287, 288, 60, 583, 584, 585, 586, 386, 387, 388, 389, 54, 124, 125, 126, 587, 588, 589, 590, 27, 344] (by decide +kernel) (by decide +kernel)
theorem pLS_4 : GoodIn wsL_law wsL_same_r4 := goodIn_r _ [345, 346, 347, 348, 349, 350, 351, 352, 353, 374, 375, 376, 377, 357, 358, 359, 111, 112, 113, 114, 591, 592, 593, 594] (by decide +kernel) (by decide +kernel)
theorem pLS_5 : GoodIn wsL_law wsL_same_r5 := goodIn_r _ [595, 596, 597, 598, 314, 315, 316, 317, 318, 319, 599, 600, 601, 602, 603, 365, 366, 367, 368, 369, 370, 371, 26, 372] (by decide +kernel) (by decide +kernel)
theorem pLS_6 : GoodIn wsL_law wsL_same_r6 := goodIn_r _ [81, 325, 326, 327, 373, 202, 203, 204, 205, 206, 207, 208, 209, 210, 211, 134, 135, 95, 96, 32, 31, 217, 218, 219] (by decide +kernel) (by decide +kernel)
theorem pLS_7 : GoodIn wsL_law wsL_same_r7 := goodIn_r _ [220, 15, 221, 222, 223, 14, 224, 41, 225, 226, 227, 228, 53, 186, 187, 188, 154, 155, 156, 229, 230, 231, 232, 242] (by decide +kernel) (by decide +kernel)
theorem pLS_8 : GoodIn wsL_law wsL_same_r8 := goodIn_r _ [243, 244, 245, 246, 64, 247, 248, 249, 250, 251, 252, 66, 67, 68, 69, 59, 61, 253, 71, 72, 73, 254, 255, 256] (by decide +kernel) (by decide +kernel)
theorem pLS_9 : GoodIn wsL_law wsL_same_r9 := goodIn_r _ [30, 257, 90, 258, 89, 86, 87, 88, 259, 260, 261, 262, 263, 264, 265, 266, 267, 268, 269, 270, 271, 272, 273, 274] (by decide +kernel) (by decide +kernel)
theorem pLS_10 : GoodIn wsL_law wsL_same_r10 := goodIn_r _ [275, 276, 277, 278, 279, 280, 281, 282, 283, 289, 290, 291, 292, 293, 294, 295, 296, 297, 298, 299, 300, 301, 302, 303] (by decide +kernel) (by decide +kernel)
theorem pLS_11 : GoodIn wsL_law wsL_same_r11 := goodIn_r _ [304, 305, 306, 307, 308, 309, 310, 311, 312, 313, 320, 321, 322, 323, 324, 328, 329, 330, 331, 332, 333, 334, 335, 336] (by decide +kernel) (by decide +kernel)
theorem pLS_12 : GoodIn wsL_law wsL_same_r12 := goodIn_r _ [337, 338, 339, 340, 341, 342, 343, 354, 355, 356, 360, 361, 362, 363, 364, 378, 379, 380, 381, 180, 181, 182, 183, 184] (by decide +kernel) (by decide +kernel)
theorem pLS_13 : GoodIn wsL_law wsL_same_r13 := goodIn_r _ [148, 185, 150, 151, 152, 153, 382, 383, 384, 385, 19, 390, 391, 392, 18, 393, 48, 45, 394, 395, 396, 397, 398, 399] (by decide +kernel) (by decide +kernel)
theorem pLS_14 : GoodIn wsL_law wsL_same_r14 := goodIn_r _ [400, 401, 402, 403, 404, 405, 406, 407, 408, 409, 410, 411, 412, 413, 414, 37, 39, 40, 161, 162, 163, 164, 36, 165] (by decide +kernel) (by decide +kernel)
theorem pLS_15 : GoodIn wsL_law wsL_same_r15 := goodIn_r _ [143, 144, 145, 415, 416, 417, 418, 419, 420, 421, 422, 423, 424, 425, 426, 427, 428, 429, 430, 431, 432, 433, 434, 435] (by decide +kernel) (by decide +kernel)
theorem pLS_16 : GoodIn wsL_law wsL_same_r16 := goodIn_r _ [436, 437, 438, 439, 440, 46, 441, 442, 443, 444, 445, 446, 447, 448, 47, 449, 450, 451, 452, 453, 454, 455, 82, 456] (by decide +kernel) (by decide +kernel)
theorem pLS_17 : GoodIn wsL_law wsL_same_r17 := goodIn_r _ [457, 458, 459, 460, 461, 462, 463, 464, 465, 466, 467, 468, 469, 470, 471, 472, 604, 605, 606, 607, 118, 119, 120, 608] (by decide +kernel) (by decide +kernel)
theorem pLS_18 : GoodIn wsL_law wsL_same_r18 := goodIn_r _ [609, 610, 611, 121, 122, 123, 612, 613, 614, 615, 616, 617, 618, 619, 620, 621, 622, 623, 624, 625, 626, 627, 628, 629] (by decide +kernel) (by decide +kernel)
theorem pLS_19 : GoodIn wsL_law wsL_same_r19 := goodIn_r _ [478, 479, 480, 481, 482, 483, 484, 485] (by decide +kernel) (by decide +kernel)
theorem pLS_0 : GoodIn wsL_law [.code yL_same cL_same 11 (some .boolean)] := goodIn_r _ [566] (by decide +kernel) (by decide +kernel)
theorem pLS_wsX70 : GoodIn wsL_law wsX70 := goodIn_r _ [630, 631, 632, 633, 634, 635] (by decide +kernel) (by decide +kernel)
theorem pLS_wsX10 : GoodIn wsL_law wsX10 := goodIn_r _ [654, 655, 656, 657, 658, 659, 660, 661] (by decide +kernel) (by decide +kernel)
theorem pLS_wsX60 : GoodIn wsL_law wsX60 := goodIn_r _ [645, 646, 647, 648, 649, 650, 651, 652, 653] (by decide +kernel) (by decide +kernel)
theorem pLS_wsX50 : GoodIn wsL_law wsX50 := goodIn_r _ [636, 637, 638, 639, 640] (by decide +kernel) (by decide +kernel)
theorem pLS_wsX00 : GoodIn wsL_law wsX00 := goodIn_r _ [662, 663, 664, 665, 666] (by decide +kernel) (by decide +kernel)
theorem pLS_wsX30 : GoodIn wsL_law wsX30 := goodIn_r _ [641, 642, 643, 644] (by decide +kernel) (by decide +kernel)
theorem ggL_law_L_same : GoodIn wsL_law wsL_same := goodIn_ca (goodIn_ca (goodIn_ca (goodIn_cons9 pLS_0 (goodIn_app (goodIn_app (goodIn_app (goodIn_app (goodIn_app (goodIn_app (goodIn_app pLS_1 (goodIn_app pLS_2 (goodIn_app pLS_3 (goodIn_app pLS_4 (goodIn_app pLS_5 (goodIn_app pLS_6 (goodIn_app pLS_7 (goodIn_app pLS_8 (goodIn_app pLS_9 (goodIn_app pLS_10 (goodIn_app pLS_11 (goodIn_app pLS_12 (goodIn_app pLS_13 (goodIn_app pLS_14 (goodIn_app pLS_15 (goodIn_app pLS_16 (goodIn_app pLS_17 (goodIn_app pLS_18 pLS_19)))))))))))))))))) pLS_wsX70) pLS_wsX10) pLS_wsX60) pLS_wsX50) pLS_wsX00) pLS_wsX30)) (goodIn_sub (fun _ h => List.mem_append_right _ h) (by decide +kernel))) (goodIn_sub (fun _ h => List.mem_append_left _ (List.mem_append_right _ h)) (by decide +kernel))) (goodIn_sub (fun _ h => List.mem_append_left _ (List.mem_append_left _ (List.mem_append_right _ h))) (by decide +kernel))
set_option maxRecDepth 20000 in
theorem gL_law_L_same : GoodIn wsL_law (va_wsS RL 183 yL_same wsL_same) := goodIn_app (goodIn_of _ (by decide +kernel)) ggL_law_L_same
theorem dL_law_0 : decode cL_law 0 = .ok (.new 44, 3) := by decide +kernel
theorem dL_law_3 : decode cL_law 3 = .ok (.dup, 1) := by decide +kernel
theorem dL_law_4 : decode cL_law 4 = .ok (.invokespecial 143, 3) := by decide +kernel
theorem dL_law_7 : decode cL_law 7 = .ok (.astore_n 1, 1) := by decide +kernel
theorem dL_law_8 : decode cL_law 8 = .ok (.bipush 6, 2) := by decide +kernel
theorem dL_law_10 : decode cL_law 10 = .ok (.newarray .int, 2) := by decide +kernel
theorem dL_law_12 : decode cL_law 12 = .ok (.astore_n 2, 1) := by decide +kernel
theorem dL_law_13 : decode cL_law 13 = .ok (.bipush 60, 2) := by decide +kernel
theorem dL_law_15 : decode cL_law 15 = .ok (.newarray .int, 2) := by decide +kernel
theorem dL_law_17 : decode cL_law 17 = .ok (.astore_n 3, 1) := by decide +kernel
theorem dL_law_18 : decode cL_law 18 = .ok (.bipush 60, 2) := by decide +kernel
theorem dL_law_20 : decode cL_law 20 = .ok (.newarray .int, 2) := by decide +kernel
theorem dL_law_22 : decode cL_law 22 = .ok (.astore 4, 2) := by decide +kernel
theorem dL_law_24 : decode cL_law 24 = .ok (.bipush 18, 2) := by decide +kernel
theorem dL_law_26 : decode cL_law 26 = .ok (.newarray .int, 2) := by decide +kernel
theorem dL_law_28 : decode cL_law 28 = .ok (.astore 5, 2) := by decide +kernel
theorem dL_law_30 : decode cL_law 30 = .ok (.bipush 18, 2) := by decide +kernel
theorem dL_law_32 : decode cL_law 32 = .ok (.newarray .int, 2) := by decide +kernel
theorem dL_law_34 : decode cL_law 34 = .ok (.astore 6, 2) := by decide +kernel
theorem dL_law_36 : decode cL_law 36 = .ok (.iconst 3, 1) := by decide +kernel
theorem dL_law_37 : decode cL_law 37 = .ok (.newarray .int, 2) := by decide +kernel
theorem dL_law_39 : decode cL_law 39 = .ok (.astore 7, 2) := by decide +kernel
theorem dL_law_41 : decode cL_law 41 = .ok (.bipush 12, 2) := by decide +kernel
theorem dL_law_43 : decode cL_law 43 = .ok (.newarray .int, 2) := by decide +kernel
theorem dL_law_45 : decode cL_law 45 = .ok (.astore 8, 2) := by decide +kernel
theorem dL_law_47 : decode cL_law 47 = .ok (.iconst 1, 1) := by decide +kernel
theorem dL_law_48 : decode cL_law 48 = .ok (.newarray .long, 2) := by decide +kernel
theorem dL_law_50 : decode cL_law 50 = .ok (.astore 9, 2) := by decide +kernel
theorem dL_law_52 : decode cL_law 52 = .ok (.aload 9, 2) := by decide +kernel
theorem dL_law_54 : decode cL_law 54 = .ok (.iconst 0, 1) := by decide +kernel
theorem dL_law_55 : decode cL_law 55 = .ok (.ldc2_w 144, 3) := by decide +kernel
theorem dL_law_58 : decode cL_law 58 = .ok (.lastore, 1) := by decide +kernel
theorem dL_law_59 : decode cL_law 59 = .ok (.aload_n 2, 1) := by decide +kernel
theorem dL_law_60 : decode cL_law 60 = .ok (.iconst 3, 1) := by decide +kernel
theorem dL_law_61 : decode cL_law 61 = .ok (.iconst 1, 1) := by decide +kernel
theorem dL_law_62 : decode cL_law 62 = .ok (.iastore, 1) := by decide +kernel
theorem dL_law_63 : decode cL_law 63 = .ok (.aload_n 3, 1) := by decide +kernel
theorem dL_law_64 : decode cL_law 64 = .ok (.iconst 0, 1) := by decide +kernel
theorem dL_law_65 : decode cL_law 65 = .ok (.iconst (-1), 1) := by decide +kernel
theorem dL_law_66 : decode cL_law 66 = .ok (.iastore, 1) := by decide +kernel
theorem dL_law_67 : decode cL_law 67 = .ok (.aload_n 3, 1) := by decide +kernel
theorem dL_law_68 : decode cL_law 68 = .ok (.iconst 4, 1) := by decide +kernel
theorem dL_law_69 : decode cL_law 69 = .ok (.iconst (-1), 1) := by decide +kernel
theorem dL_law_70 : decode cL_law 70 = .ok (.iastore, 1) := by decide +kernel
theorem dL_law_71 : decode cL_law 71 = .ok (.iconst 0, 1) := by decide +kernel
theorem dL_law_72 : decode cL_law 72 = .ok (.istore 10, 2) := by decide +kernel
theorem dL_law_74 : decode cL_law 74 = .ok (.iload 10, 2) := by decide +kernel
theorem dL_law_76 : decode cL_law 76 = .ok (.iconst 3, 1) := by decide +kernel
theorem dL_law_77 : decode cL_law 77 = .ok (.if_icmp .ge 20, 3) := by decide +kernel
theorem dL_law_80 : decode cL_law 80 = .ok (.aload_n 1, 1) := by decide +kernel
theorem dL_law_81 : decode cL_law 81 = .ok (.invokevirtual 146, 3) := by decide +kernel
theorem dL_law_84 : decode cL_law 84 = .ok (.iload 10, 2) := by decide +kernel
theorem dL_law_86 : decode cL_law 86 = .ok (.if_icmp .eq 5, 3) := by decide +kernel
theorem dL_law_89 : decode cL_law 89 = .ok (.iconst 0, 1) := by decide +kernel
theorem dL_law_90 : decode cL_law 90 = .ok (.ireturn, 1) := by decide +kernel
theorem dL_law_91 : decode cL_law 91 = .ok (.iinc 10 1, 3) := by decide +kernel
theorem dL_law_94 : decode cL_law 94 = .ok (.goto (-20), 3) := by decide +kernel
theorem dL_law_97 : decode cL_law 97 = .ok (.iconst 0, 1) := by decide +kernel
theorem dL_law_98 : decode cL_law 98 = .ok (.istore 10, 2) := by decide +kernel
theorem dL_law_100 : decode cL_law 100 = .ok (.iload 10, 2) := by decide +kernel
theorem dL_law_102 : decode cL_law 102 = .ok (.bipush 56, 2) := by decide +kernel
theorem dL_law_104 : decode cL_law 104 = .ok (.if_icmp .ge 1849, 3) := by decide +kernel
theorem dL_law_107 : decode cL_law 107 = .ok (.aload_n 0, 1) := by decide +kernel
theorem dL_law_108 : decode cL_law 108 = .ok (.iconst 2, 1) := by decide +kernel
theorem dL_law_109 : decode cL_law 109 = .ok (.iload 10, 2) := by decide +kernel
theorem dL_law_111 : decode cL_law 111 = .ok (.imul, 1) := by decide +kernel
theorem dL_law_112 : decode cL_law 112 = .ok (.invokestatic 149, 3) := by decide +kernel
theorem dL_law_115 : decode cL_law 115 = .ok (.istore 11, 2) := by decide +kernel
theorem dL_law_117 : decode cL_law 117 = .ok (.aload_n 0, 1) := by decide +kernel
theorem dL_law_118 : decode cL_law 118 = .ok (.iconst 2, 1) := by decide +kernel
theorem dL_law_119 : decode cL_law 119 = .ok (.iload 10, 2) := by decide +kernel
theorem dL_law_121 : decode cL_law 121 = .ok (.imul, 1) := by decide +kernel
theorem dL_law_122 : decode cL_law 122 = .ok (.iconst 1, 1) := by decide +kernel
theorem dL_law_123 : decode cL_law 123 = .ok (.iadd, 1) := by decide +kernel
theorem dL_law_124 : decode cL_law 124 = .ok (.invokestatic 149, 3) := by decide +kernel
theorem dL_law_127 : decode cL_law 127 = .ok (.istore 12, 2) := by decide +kernel
theorem dL_law_129 : decode cL_law 129 = .ok (.iload 10, 2) := by decide +kernel
theorem dL_law_131 : decode cL_law 131 = .ok (.iconst 2, 1) := by decide +kernel
theorem dL_law_132 : decode cL_law 132 = .ok (.if_icmp .ge 7, 3) := by decide +kernel
theorem dL_law_135 : decode cL_law 135 = .ok (.iconst 0, 1) := by decide +kernel
theorem dL_law_136 : decode cL_law 136 = .ok (.goto 31, 3) := by decide +kernel
theorem dL_law_139 : decode cL_law 139 = .ok (.iload 10, 2) := by decide +kernel
theorem dL_law_141 : decode cL_law 141 = .ok (.iconst 4, 1) := by decide +kernel
theorem dL_law_142 : decode cL_law 142 = .ok (.if_icmp .ge 7, 3) := by decide +kernel
theorem dL_law_145 : decode cL_law 145 = .ok (.iconst 3, 1) := by decide +kernel
theorem dL_law_146 : decode cL_law 146 = .ok (.goto 21, 3) := by decide +kernel
theorem dL_law_149 : decode cL_law 149 = .ok (.iload 10, 2) := by decide +kernel
theorem dL_law_151 : decode cL_law 151 = .ok (.bipush 6, 2) := by decide +kernel
theorem dL_law_153 : decode cL_law 153 = .ok (.if_icmp .ge 7, 3) := by decide +kernel
theorem dL_law_156 : decode cL_law 156 = .ok (.iconst 4, 1) := by decide +kernel
theorem dL_law_157 : decode cL_law 157 = .ok (.goto 10, 3) := by decide +kernel
theorem dL_law_160 : decode cL_law 160 = .ok (.iload 11, 2) := by decide +kernel
theorem dL_law_162 : decode cL_law 162 = .ok (.bipush 20, 2) := by decide +kernel
theorem dL_law_164 : decode cL_law 164 = .ok (.invokestatic 113, 3) := by decide +kernel
theorem dL_law_167 : decode cL_law 167 = .ok (.istore 13, 2) := by decide +kernel
theorem dL_law_169 : decode cL_law 169 = .ok (.iload 12, 2) := by decide +kernel
theorem dL_law_171 : decode cL_law 171 = .ok (.aload_n 2, 1) := by decide +kernel
theorem dL_law_172 : decode cL_law 172 = .ok (.iconst 3, 1) := by decide +kernel
theorem dL_law_173 : decode cL_law 173 = .ok (.iaload, 1) := by decide +kernel
theorem dL_law_174 : decode cL_law 174 = .ok (.invokestatic 113, 3) := by decide +kernel
theorem dL_law_177 : decode cL_law 177 = .ok (.istore 14, 2) := by decide +kernel
theorem dL_law_179 : decode cL_law 179 = .ok (.iload 14, 2) := by decide +kernel
theorem dL_law_181 : decode cL_law 181 = .ok (.aload_n 2, 1) := by decide +kernel
theorem dL_law_182 : decode cL_law 182 = .ok (.aload_n 3, 1) := by decide +kernel
theorem dL_law_183 : decode cL_law 183 = .ok (.invokestatic 23, 3) := by decide +kernel
theorem dL_law_186 : decode cL_law 186 = .ok (.istore 15, 2) := by decide +kernel
theorem dL_law_188 : decode cL_law 188 = .ok (.aload_n 2, 1) := by decide +kernel
theorem dL_law_189 : decode cL_law 189 = .ok (.aload_n 3, 1) := by decide +kernel
theorem dL_law_190 : decode cL_law 190 = .ok (.invokestatic 126, 3) := by decide +kernel
theorem dL_law_193 : decode cL_law 193 = .ok (.aload_n 2, 1) := by decide +kernel
theorem dL_law_194 : decode cL_law 194 = .ok (.aload_n 3, 1) := by decide +kernel
theorem dL_law_195 : decode cL_law 195 = .ok (.aload 4, 2) := by decide +kernel
theorem dL_law_197 : decode cL_law 197 = .ok (.invokestatic 133, 3) := by decide +kernel
theorem dL_law_200 : decode cL_law 200 = .ok (.iadd, 1) := by decide +kernel
theorem dL_law_201 : decode cL_law 201 = .ok (.istore 16, 2) := by decide +kernel
theorem dL_law_203 : decode cL_law 203 = .ok (.iload 13, 2) := by decide +kernel
theorem dL_law_205 : decode cL_law 205 = .ok (.iconst 3, 1) := by decide +kernel
theorem dL_law_206 : decode cL_law 206 = .ok (.if_icmp .ge 246, 3) := by decide +kernel
theorem dL_law_209 : decode cL_law 209 = .ok (.iload 12, 2) := by decide +kernel
theorem dL_law_211 : decode cL_law 211 = .ok (.iconst 3, 1) := by decide +kernel
theorem dL_law_212 : decode cL_law 212 = .ok (.invokestatic 113, 3) := by decide +kernel
theorem dL_law_215 : decode cL_law 215 = .ok (.istore 17, 2) := by decide +kernel
theorem dL_law_217 : decode cL_law 217 = .ok (.iload 11, 2) := by decide +kernel
theorem dL_law_219 : decode cL_law 219 = .ok (.iconst 4, 1) := by decide +kernel
theorem dL_law_220 : decode cL_law 220 = .ok (.ishr, 1) := by decide +kernel
theorem dL_law_221 : decode cL_law 221 = .ok (.iconst 3, 1) := by decide +kernel
theorem dL_law_222 : decode cL_law 222 = .ok (.invokestatic 153, 3) := by decide +kernel
theorem dL_law_225 : decode cL_law 225 = .ok (.istore 18, 2) := by decide +kernel
theorem dL_law_227 : decode cL_law 227 = .ok (.iload 12, 2) := by decide +kernel
theorem dL_law_229 : decode cL_law 229 = .ok (.iconst 2, 1) := by decide +kernel
theorem dL_law_230 : decode cL_law 230 = .ok (.ishr, 1) := by decide +kernel
theorem dL_law_231 : decode cL_law 231 = .ok (.iconst 3, 1) := by decide +kernel
theorem dL_law_232 : decode cL_law 232 = .ok (.invokestatic 113, 3) := by decide +kernel
theorem dL_law_235 : decode cL_law 235 = .ok (.ifCond .ne 17, 3) := by decide +kernel
theorem dL_law_238 : decode cL_law 238 = .ok (.iload 18, 2) := by decide +kernel
theorem dL_law_240 : decode cL_law 240 = .ok (.bipush 9, 2) := by decide +kernel
theorem dL_law_242 : decode cL_law 242 = .ok (.iadd, 1) := by decide +kernel
theorem dL_law_243 : decode cL_law 243 = .ok (.iload 18, 2) := by decide +kernel
theorem dL_law_245 : decode cL_law 245 = .ok (.bipush 10, 2) := by decide +kernel
theorem dL_law_247 : decode cL_law 247 = .ok (.irem, 1) := by decide +kernel
theorem dL_law_248 : decode cL_law 248 = .ok (.isub, 1) := by decide +kernel
theorem dL_law_249 : decode cL_law 249 = .ok (.goto 5, 3) := by decide +kernel
theorem dL_law_252 : decode cL_law 252 = .ok (.iload 18, 2) := by decide +kernel
theorem dL_law_254 : decode cL_law 254 = .ok (.istore 18, 2) := by decide +kernel
theorem dL_law_256 : decode cL_law 256 = .ok (.iload 12, 2) := by decide +kernel
theorem dL_law_258 : decode cL_law 258 = .ok (.iconst 4, 1) := by decide +kernel
theorem dL_law_259 : decode cL_law 259 = .ok (.ishr, 1) := by decide +kernel
theorem dL_law_260 : decode cL_law 260 = .ok (.iconst 2, 1) := by decide +kernel
theorem dL_law_261 : decode cL_law 261 = .ok (.invokestatic 113, 3) := by decide +kernel
theorem dL_law_264 : decode cL_law 264 = .ok (.istore 19, 2) := by decide +kernel
theorem dL_law_266 : decode cL_law 266 = .ok (.iload 12, 2) := by decide +kernel
theorem dL_law_268 : decode cL_law 268 = .ok (.bipush 6, 2) := by decide +kernel
theorem dL_law_270 : decode cL_law 270 = .ok (.ishr, 1) := by decide +kernel
end
section
theorem dL_law_271 : decode cL_law 271 = .ok (.iconst 5, 1) := by decide +kernel
theorem dL_law_272 : decode cL_law 272 = .ok (.invokestatic 113, 3) := by decide +kernel
theorem dL_law_275 : decode cL_law 275 = .ok (.ifCond .ne 19, 3) := by decide +kernel
theorem dL_law_278 : decode cL_law 278 = .ok (.bipush 8, 2) := by decide +kernel
theorem dL_law_280 : decode cL_law 280 = .ok (.iload 12, 2) := by decide +kernel
theorem dL_law_282 : decode cL_law 282 = .ok (.bipush 9, 2) := by decide +kernel
theorem dL_law_284 : decode cL_law 284 = .ok (.ishr, 1) := by decide +kernel
theorem dL_law_285 : decode cL_law 285 = .ok (.bipush 8, 2) := by decide +kernel
theorem dL_law_287 : decode cL_law 287 = .ok (.invokestatic 113, 3) := by decide +kernel
theorem dL_law_290 : decode cL_law 290 = .ok (.iadd, 1) := by decide +kernel
theorem dL_law_291 : decode cL_law 291 = .ok (.goto 15, 3) := by decide +kernel
theorem dL_law_294 : decode cL_law 294 = .ok (.iconst 1, 1) := by decide +kernel
theorem dL_law_295 : decode cL_law 295 = .ok (.iload 12, 2) := by decide +kernel
theorem dL_law_297 : decode cL_law 297 = .ok (.bipush 9, 2) := by decide +kernel
theorem dL_law_299 : decode cL_law 299 = .ok (.ishr, 1) := by decide +kernel
theorem dL_law_300 : decode cL_law 300 = .ok (.bipush 7, 2) := by decide +kernel
theorem dL_law_302 : decode cL_law 302 = .ok (.invokestatic 113, 3) := by decide +kernel
theorem dL_law_305 : decode cL_law 305 = .ok (.iadd, 1) := by decide +kernel
theorem dL_law_306 : decode cL_law 306 = .ok (.istore 20, 2) := by decide +kernel
theorem dL_law_308 : decode cL_law 308 = .ok (.bipush 6, 2) := by decide +kernel
theorem dL_law_310 : decode cL_law 310 = .ok (.iload 17, 2) := by decide +kernel
theorem dL_law_312 : decode cL_law 312 = .ok (.imul, 1) := by decide +kernel
theorem dL_law_313 : decode cL_law 313 = .ok (.istore 21, 2) := by decide +kernel
theorem dL_law_315 : decode cL_law 315 = .ok (.iload 21, 2) := by decide +kernel
theorem dL_law_317 : decode cL_law 317 = .ok (.bipush 6, 2) := by decide +kernel
theorem dL_law_319 : decode cL_law 319 = .ok (.iload 17, 2) := by decide +kernel
theorem dL_law_321 : decode cL_law 321 = .ok (.imul, 1) := by decide +kernel
theorem dL_law_322 : decode cL_law 322 = .ok (.aload 7, 2) := by decide +kernel
theorem dL_law_324 : decode cL_law 324 = .ok (.iload 17, 2) := by decide +kernel
theorem dL_law_326 : decode cL_law 326 = .ok (.iaload, 1) := by decide +kernel
theorem dL_law_327 : decode cL_law 327 = .ok (.iadd, 1) := by decide +kernel
theorem dL_law_328 : decode cL_law 328 = .ok (.if_icmp .ge 25, 3) := by decide +kernel
theorem dL_law_331 : decode cL_law 331 = .ok (.aload 5, 2) := by decide +kernel
theorem dL_law_333 : decode cL_law 333 = .ok (.iload 21, 2) := by decide +kernel
theorem dL_law_335 : decode cL_law 335 = .ok (.iaload, 1) := by decide +kernel
theorem dL_law_336 : decode cL_law 336 = .ok (.bipush 10, 2) := by decide +kernel
theorem dL_law_338 : decode cL_law 338 = .ok (.iload 18, 2) := by decide +kernel
theorem dL_law_340 : decode cL_law 340 = .ok (.imul, 1) := by decide +kernel
theorem dL_law_341 : decode cL_law 341 = .ok (.iload 19, 2) := by decide +kernel
theorem dL_law_343 : decode cL_law 343 = .ok (.iadd, 1) := by decide +kernel
theorem dL_law_344 : decode cL_law 344 = .ok (.if_icmp .eq 9, 3) := by decide +kernel
theorem dL_law_347 : decode cL_law 347 = .ok (.iinc 21 1, 3) := by decide +kernel
theorem dL_law_350 : decode cL_law 350 = .ok (.goto (-35), 3) := by decide +kernel
theorem dL_law_353 : decode cL_law 353 = .ok (.iload 21, 2) := by decide +kernel
theorem dL_law_355 : decode cL_law 355 = .ok (.bipush 6, 2) := by decide +kernel
theorem dL_law_357 : decode cL_law 357 = .ok (.iload 17, 2) := by decide +kernel
theorem dL_law_359 : decode cL_law 359 = .ok (.imul, 1) := by decide +kernel
theorem dL_law_360 : decode cL_law 360 = .ok (.bipush 6, 2) := by decide +kernel
theorem dL_law_362 : decode cL_law 362 = .ok (.iadd, 1) := by decide +kernel
theorem dL_law_363 : decode cL_law 363 = .ok (.if_icmp .ne 6, 3) := by decide +kernel
theorem dL_law_366 : decode cL_law 366 = .ok (.goto 1581, 3) := by decide +kernel
theorem dL_law_369 : decode cL_law 369 = .ok (.aload 7, 2) := by decide +kernel
theorem dL_law_371 : decode cL_law 371 = .ok (.iload 17, 2) := by decide +kernel
theorem dL_law_373 : decode cL_law 373 = .ok (.dup2, 1) := by decide +kernel
theorem dL_law_374 : decode cL_law 374 = .ok (.iaload, 1) := by decide +kernel
theorem dL_law_375 : decode cL_law 375 = .ok (.iload 21, 2) := by decide +kernel
theorem dL_law_377 : decode cL_law 377 = .ok (.bipush 6, 2) := by decide +kernel
theorem dL_law_379 : decode cL_law 379 = .ok (.iload 17, 2) := by decide +kernel
theorem dL_law_381 : decode cL_law 381 = .ok (.imul, 1) := by decide +kernel
theorem dL_law_382 : decode cL_law 382 = .ok (.aload 7, 2) := by decide +kernel
theorem dL_law_384 : decode cL_law 384 = .ok (.iload 17, 2) := by decide +kernel
theorem dL_law_386 : decode cL_law 386 = .ok (.iaload, 1) := by decide +kernel
theorem dL_law_387 : decode cL_law 387 = .ok (.iadd, 1) := by decide +kernel
theorem dL_law_388 : decode cL_law 388 = .ok (.if_icmp .ne 7, 3) := by decide +kernel
theorem dL_law_391 : decode cL_law 391 = .ok (.iconst 1, 1) := by decide +kernel
theorem dL_law_392 : decode cL_law 392 = .ok (.goto 4, 3) := by decide +kernel
theorem dL_law_395 : decode cL_law 395 = .ok (.iconst 0, 1) := by decide +kernel
theorem dL_law_396 : decode cL_law 396 = .ok (.iadd, 1) := by decide +kernel
theorem dL_law_397 : decode cL_law 397 = .ok (.iastore, 1) := by decide +kernel
theorem dL_law_398 : decode cL_law 398 = .ok (.aload 5, 2) := by decide +kernel
theorem dL_law_400 : decode cL_law 400 = .ok (.iload 21, 2) := by decide +kernel
theorem dL_law_402 : decode cL_law 402 = .ok (.bipush 10, 2) := by decide +kernel
theorem dL_law_404 : decode cL_law 404 = .ok (.iload 18, 2) := by decide +kernel
theorem dL_law_406 : decode cL_law 406 = .ok (.imul, 1) := by decide +kernel
theorem dL_law_407 : decode cL_law 407 = .ok (.iload 19, 2) := by decide +kernel
theorem dL_law_409 : decode cL_law 409 = .ok (.iadd, 1) := by decide +kernel
theorem dL_law_410 : decode cL_law 410 = .ok (.iastore, 1) := by decide +kernel
theorem dL_law_411 : decode cL_law 411 = .ok (.aload 6, 2) := by decide +kernel
theorem dL_law_413 : decode cL_law 413 = .ok (.iload 21, 2) := by decide +kernel
theorem dL_law_415 : decode cL_law 415 = .ok (.iload 20, 2) := by decide +kernel
theorem dL_law_417 : decode cL_law 417 = .ok (.iastore, 1) := by decide +kernel
theorem dL_law_418 : decode cL_law 418 = .ok (.aload_n 1, 1) := by decide +kernel
theorem dL_law_419 : decode cL_law 419 = .ok (.iload 17, 2) := by decide +kernel
theorem dL_law_421 : decode cL_law 421 = .ok (.iload 18, 2) := by decide +kernel
theorem dL_law_423 : decode cL_law 423 = .ok (.iload 19, 2) := by decide +kernel
theorem dL_law_425 : decode cL_law 425 = .ok (.iconst 1, 1) := by decide +kernel
theorem dL_law_426 : decode cL_law 426 = .ok (.if_icmp .ne 7, 3) := by decide +kernel
theorem dL_law_429 : decode cL_law 429 = .ok (.iconst 1, 1) := by decide +kernel
theorem dL_law_430 : decode cL_law 430 = .ok (.goto 4, 3) := by decide +kernel
theorem dL_law_433 : decode cL_law 433 = .ok (.iconst 0, 1) := by decide +kernel
theorem dL_law_434 : decode cL_law 434 = .ok (.iload 20, 2) := by decide +kernel
theorem dL_law_436 : decode cL_law 436 = .ok (.invokevirtual 156, 3) := by decide +kernel
theorem dL_law_439 : decode cL_law 439 = .ok (.aload 7, 2) := by decide +kernel
theorem dL_law_441 : decode cL_law 441 = .ok (.iload 17, 2) := by decide +kernel
theorem dL_law_443 : decode cL_law 443 = .ok (.iaload, 1) := by decide +kernel
theorem dL_law_444 : decode cL_law 444 = .ok (.if_icmp .eq 5, 3) := by decide +kernel
theorem dL_law_447 : decode cL_law 447 = .ok (.iconst 0, 1) := by decide +kernel
theorem dL_law_448 : decode cL_law 448 = .ok (.ireturn, 1) := by decide +kernel
theorem dL_law_449 : decode cL_law 449 = .ok (.goto 1481, 3) := by decide +kernel
theorem dL_law_452 : decode cL_law 452 = .ok (.iload 13, 2) := by decide +kernel
theorem dL_law_454 : decode cL_law 454 = .ok (.iconst 3, 1) := by decide +kernel
theorem dL_law_455 : decode cL_law 455 = .ok (.if_icmp .ne 161, 3) := by decide +kernel
theorem dL_law_458 : decode cL_law 458 = .ok (.iload 11, 2) := by decide +kernel
theorem dL_law_460 : decode cL_law 460 = .ok (.iconst 4, 1) := by decide +kernel
theorem dL_law_461 : decode cL_law 461 = .ok (.ishr, 1) := by decide +kernel
theorem dL_law_462 : decode cL_law 462 = .ok (.iconst 2, 1) := by decide +kernel
theorem dL_law_463 : decode cL_law 463 = .ok (.invokestatic 153, 3) := by decide +kernel
theorem dL_law_466 : decode cL_law 466 = .ok (.istore 17, 2) := by decide +kernel
theorem dL_law_468 : decode cL_law 468 = .ok (.iconst 0, 1) := by decide +kernel
theorem dL_law_469 : decode cL_law 469 = .ok (.istore 18, 2) := by decide +kernel
theorem dL_law_471 : decode cL_law 471 = .ok (.iload 18, 2) := by decide +kernel
theorem dL_law_473 : decode cL_law 473 = .ok (.aload_n 2, 1) := by decide +kernel
theorem dL_law_474 : decode cL_law 474 = .ok (.iconst 2, 1) := by decide +kernel
theorem dL_law_475 : decode cL_law 475 = .ok (.iaload, 1) := by decide +kernel
theorem dL_law_476 : decode cL_law 476 = .ok (.if_icmp .ge 21, 3) := by decide +kernel
theorem dL_law_479 : decode cL_law 479 = .ok (.aload 8, 2) := by decide +kernel
theorem dL_law_481 : decode cL_law 481 = .ok (.iconst 3, 1) := by decide +kernel
theorem dL_law_482 : decode cL_law 482 = .ok (.iload 18, 2) := by decide +kernel
theorem dL_law_484 : decode cL_law 484 = .ok (.imul, 1) := by decide +kernel
theorem dL_law_485 : decode cL_law 485 = .ok (.iaload, 1) := by decide +kernel
theorem dL_law_486 : decode cL_law 486 = .ok (.iload 17, 2) := by decide +kernel
theorem dL_law_488 : decode cL_law 488 = .ok (.if_icmp .eq 9, 3) := by decide +kernel
theorem dL_law_491 : decode cL_law 491 = .ok (.iinc 18 1, 3) := by decide +kernel
theorem dL_law_494 : decode cL_law 494 = .ok (.goto (-23), 3) := by decide +kernel
theorem dL_law_497 : decode cL_law 497 = .ok (.iload 18, 2) := by decide +kernel
theorem dL_law_499 : decode cL_law 499 = .ok (.iconst 4, 1) := by decide +kernel
theorem dL_law_500 : decode cL_law 500 = .ok (.if_icmp .ne 6, 3) := by decide +kernel
theorem dL_law_503 : decode cL_law 503 = .ok (.goto 1444, 3) := by decide +kernel
theorem dL_law_506 : decode cL_law 506 = .ok (.aload_n 2, 1) := by decide +kernel
theorem dL_law_507 : decode cL_law 507 = .ok (.iconst 2, 1) := by decide +kernel
theorem dL_law_508 : decode cL_law 508 = .ok (.dup2, 1) := by decide +kernel
theorem dL_law_509 : decode cL_law 509 = .ok (.iaload, 1) := by decide +kernel
theorem dL_law_510 : decode cL_law 510 = .ok (.iload 18, 2) := by decide +kernel
theorem dL_law_512 : decode cL_law 512 = .ok (.aload_n 2, 1) := by decide +kernel
theorem dL_law_513 : decode cL_law 513 = .ok (.iconst 2, 1) := by decide +kernel
theorem dL_law_514 : decode cL_law 514 = .ok (.iaload, 1) := by decide +kernel
theorem dL_law_515 : decode cL_law 515 = .ok (.if_icmp .ne 7, 3) := by decide +kernel
theorem dL_law_518 : decode cL_law 518 = .ok (.iconst 1, 1) := by decide +kernel
theorem dL_law_519 : decode cL_law 519 = .ok (.goto 4, 3) := by decide +kernel
theorem dL_law_522 : decode cL_law 522 = .ok (.iconst 0, 1) := by decide +kernel
theorem dL_law_523 : decode cL_law 523 = .ok (.iadd, 1) := by decide +kernel
theorem dL_law_524 : decode cL_law 524 = .ok (.iastore, 1) := by decide +kernel
theorem dL_law_525 : decode cL_law 525 = .ok (.aload 8, 2) := by decide +kernel
theorem dL_law_527 : decode cL_law 527 = .ok (.iconst 3, 1) := by decide +kernel
theorem dL_law_528 : decode cL_law 528 = .ok (.iload 18, 2) := by decide +kernel
theorem dL_law_530 : decode cL_law 530 = .ok (.imul, 1) := by decide +kernel
theorem dL_law_531 : decode cL_law 531 = .ok (.iload 17, 2) := by decide +kernel
theorem dL_law_533 : decode cL_law 533 = .ok (.iastore, 1) := by decide +kernel
theorem dL_law_534 : decode cL_law 534 = .ok (.aload 8, 2) := by decide +kernel
theorem dL_law_536 : decode cL_law 536 = .ok (.iconst 3, 1) := by decide +kernel
theorem dL_law_537 : decode cL_law 537 = .ok (.iload 18, 2) := by decide +kernel
theorem dL_law_539 : decode cL_law 539 = .ok (.imul, 1) := by decide +kernel
theorem dL_law_540 : decode cL_law 540 = .ok (.iconst 1, 1) := by decide +kernel
theorem dL_law_541 : decode cL_law 541 = .ok (.iadd, 1) := by decide +kernel
theorem dL_law_542 : decode cL_law 542 = .ok (.iconst 1, 1) := by decide +kernel
theorem dL_law_543 : decode cL_law 543 = .ok (.iload 12, 2) := by decide +kernel
theorem dL_law_545 : decode cL_law 545 = .ok (.bipush 30, 2) := by decide +kernel
theorem dL_law_547 : decode cL_law 547 = .ok (.invokestatic 113, 3) := by decide +kernel
theorem dL_law_550 : decode cL_law 550 = .ok (.iadd, 1) := by decide +kernel
theorem dL_law_551 : decode cL_law 551 = .ok (.iastore, 1) := by decide +kernel
theorem dL_law_552 : decode cL_law 552 = .ok (.aload 8, 2) := by decide +kernel
theorem dL_law_554 : decode cL_law 554 = .ok (.iconst 3, 1) := by decide +kernel
theorem dL_law_555 : decode cL_law 555 = .ok (.iload 18, 2) := by decide +kernel
theorem dL_law_557 : decode cL_law 557 = .ok (.imul, 1) := by decide +kernel
theorem dL_law_558 : decode cL_law 558 = .ok (.iconst 2, 1) := by decide +kernel
theorem dL_law_559 : decode cL_law 559 = .ok (.iadd, 1) := by decide +kernel
theorem dL_law_560 : decode cL_law 560 = .ok (.aload 8, 2) := by decide +kernel
theorem dL_law_562 : decode cL_law 562 = .ok (.iconst 3, 1) := by decide +kernel
theorem dL_law_563 : decode cL_law 563 = .ok (.iload 18, 2) := by decide +kernel
theorem dL_law_565 : decode cL_law 565 = .ok (.imul, 1) := by decide +kernel
theorem dL_law_566 : decode cL_law 566 = .ok (.iconst 1, 1) := by decide +kernel
theorem dL_law_567 : decode cL_law 567 = .ok (.iadd, 1) := by decide +kernel
theorem dL_law_568 : decode cL_law 568 = .ok (.iaload, 1) := by decide +kernel
theorem dL_law_569 : decode cL_law 569 = .ok (.iload 12, 2) := by decide +kernel
theorem dL_law_571 : decode cL_law 571 = .ok (.bipush 6, 2) := by decide +kernel
theorem dL_law_573 : decode cL_law 573 = .ok (.ishr, 1) := by decide +kernel
theorem dL_law_574 : decode cL_law 574 = .ok (.bipush 40, 2) := by decide +kernel
theorem dL_law_576 : decode cL_law 576 = .ok (.invokestatic 113, 3) := by decide +kernel
theorem dL_law_579 : decode cL_law 579 = .ok (.iadd, 1) := by decide +kernel
theorem dL_law_580 : decode cL_law 580 = .ok (.iastore, 1) := by decide +kernel
theorem dL_law_581 : decode cL_law 581 = .ok (.aload_n 1, 1) := by decide +kernel
theorem dL_law_582 : decode cL_law 582 = .ok (.iload 17, 2) := by decide +kernel
theorem dL_law_584 : decode cL_law 584 = .ok (.aload 8, 2) := by decide +kernel
theorem dL_law_586 : decode cL_law 586 = .ok (.iconst 3, 1) := by decide +kernel
theorem dL_law_587 : decode cL_law 587 = .ok (.iload 18, 2) := by decide +kernel
theorem dL_law_589 : decode cL_law 589 = .ok (.imul, 1) := by decide +kernel
theorem dL_law_590 : decode cL_law 590 = .ok (.iconst 1, 1) := by decide +kernel
theorem dL_law_591 : decode cL_law 591 = .ok (.iadd, 1) := by decide +kernel
theorem dL_law_592 : decode cL_law 592 = .ok (.iaload, 1) := by decide +kernel
theorem dL_law_593 : decode cL_law 593 = .ok (.aload 8, 2) := by decide +kernel
theorem dL_law_595 : decode cL_law 595 = .ok (.iconst 3, 1) := by decide +kernel
theorem dL_law_596 : decode cL_law 596 = .ok (.iload 18, 2) := by decide +kernel
theorem dL_law_598 : decode cL_law 598 = .ok (.imul, 1) := by decide +kernel
theorem dL_law_599 : decode cL_law 599 = .ok (.iconst 2, 1) := by decide +kernel
theorem dL_law_600 : decode cL_law 600 = .ok (.iadd, 1) := by decide +kernel
theorem dL_law_601 : decode cL_law 601 = .ok (.iaload, 1) := by decide +kernel
theorem dL_law_602 : decode cL_law 602 = .ok (.invokevirtual 160, 3) := by decide +kernel
theorem dL_law_605 : decode cL_law 605 = .ok (.aload_n 2, 1) := by decide +kernel
theorem dL_law_606 : decode cL_law 606 = .ok (.iconst 2, 1) := by decide +kernel
theorem dL_law_607 : decode cL_law 607 = .ok (.iaload, 1) := by decide +kernel
theorem dL_law_608 : decode cL_law 608 = .ok (.if_icmp .eq 5, 3) := by decide +kernel
theorem dL_law_611 : decode cL_law 611 = .ok (.iconst 0, 1) := by decide +kernel
theorem dL_law_612 : decode cL_law 612 = .ok (.ireturn, 1) := by decide +kernel
theorem dL_law_613 : decode cL_law 613 = .ok (.goto 1317, 3) := by decide +kernel
theorem dL_law_616 : decode cL_law 616 = .ok (.iload 13, 2) := by decide +kernel
theorem dL_law_618 : decode cL_law 618 = .ok (.bipush 7, 2) := by decide +kernel
theorem dL_law_620 : decode cL_law 620 = .ok (.if_icmp .ge 292, 3) := by decide +kernel
theorem dL_law_623 : decode cL_law 623 = .ok (.iconst 1, 1) := by decide +kernel
theorem dL_law_624 : decode cL_law 624 = .ok (.iload 12, 2) := by decide +kernel
theorem dL_law_626 : decode cL_law 626 = .ok (.iconst 4, 1) := by decide +kernel
theorem dL_law_627 : decode cL_law 627 = .ok (.ishr, 1) := by decide +kernel
theorem dL_law_628 : decode cL_law 628 = .ok (.bipush 40, 2) := by decide +kernel
theorem dL_law_630 : decode cL_law 630 = .ok (.invokestatic 113, 3) := by decide +kernel
theorem dL_law_633 : decode cL_law 633 = .ok (.iadd, 1) := by decide +kernel
theorem dL_law_634 : decode cL_law 634 = .ok (.istore 17, 2) := by decide +kernel
theorem dL_law_636 : decode cL_law 636 = .ok (.iload 17, 2) := by decide +kernel
theorem dL_law_638 : decode cL_law 638 = .ok (.iload 12, 2) := by decide +kernel
theorem dL_law_640 : decode cL_law 640 = .ok (.bipush 10, 2) := by decide +kernel
theorem dL_law_642 : decode cL_law 642 = .ok (.ishr, 1) := by decide +kernel
theorem dL_law_643 : decode cL_law 643 = .ok (.bipush 30, 2) := by decide +kernel
theorem dL_law_645 : decode cL_law 645 = .ok (.invokestatic 113, 3) := by decide +kernel
theorem dL_law_648 : decode cL_law 648 = .ok (.iadd, 1) := by decide +kernel
theorem dL_law_649 : decode cL_law 649 = .ok (.istore 18, 2) := by decide +kernel
theorem dL_law_651 : decode cL_law 651 = .ok (.iload 14, 2) := by decide +kernel
theorem dL_law_653 : decode cL_law 653 = .ok (.ifCond .ne 15, 3) := by decide +kernel
theorem dL_law_656 : decode cL_law 656 = .ok (.iload 11, 2) := by decide +kernel
theorem dL_law_658 : decode cL_law 658 = .ok (.iconst 5, 1) := by decide +kernel
theorem dL_law_659 : decode cL_law 659 = .ok (.ishr, 1) := by decide +kernel
theorem dL_law_660 : decode cL_law 660 = .ok (.bipush 8, 2) := by decide +kernel
theorem dL_law_662 : decode cL_law 662 = .ok (.invokestatic 113, 3) := by decide +kernel
theorem dL_law_665 : decode cL_law 665 = .ok (.goto 21, 3) := by decide +kernel
theorem dL_law_668 : decode cL_law 668 = .ok (.iload 11, 2) := by decide +kernel
theorem dL_law_670 : decode cL_law 670 = .ok (.iconst 5, 1) := by decide +kernel
theorem dL_law_671 : decode cL_law 671 = .ok (.ishr, 1) := by decide +kernel
theorem dL_law_672 : decode cL_law 672 = .ok (.bipush 8, 2) := by decide +kernel
theorem dL_law_674 : decode cL_law 674 = .ok (.invokestatic 113, 3) := by decide +kernel
theorem dL_law_677 : decode cL_law 677 = .ok (.aload_n 3, 1) := by decide +kernel
theorem dL_law_678 : decode cL_law 678 = .ok (.iconst 5, 1) := by decide +kernel
theorem dL_law_679 : decode cL_law 679 = .ok (.iload 14, 2) := by decide +kernel
theorem dL_law_681 : decode cL_law 681 = .ok (.imul, 1) := by decide +kernel
theorem dL_law_682 : decode cL_law 682 = .ok (.iconst 1, 1) := by decide +kernel
theorem dL_law_683 : decode cL_law 683 = .ok (.iadd, 1) := by decide +kernel
theorem dL_law_684 : decode cL_law 684 = .ok (.iaload, 1) := by decide +kernel
theorem dL_law_685 : decode cL_law 685 = .ok (.iand, 1) := by decide +kernel
theorem dL_law_686 : decode cL_law 686 = .ok (.istore 19, 2) := by decide +kernel
theorem dL_law_688 : decode cL_law 688 = .ok (.aload_n 2, 1) := by decide +kernel
theorem dL_law_689 : decode cL_law 689 = .ok (.iconst 3, 1) := by decide +kernel
theorem dL_law_690 : decode cL_law 690 = .ok (.iaload, 1) := by decide +kernel
theorem dL_law_691 : decode cL_law 691 = .ok (.bipush 12, 2) := by decide +kernel
theorem dL_law_693 : decode cL_law 693 = .ok (.if_icmp .ne 6, 3) := by decide +kernel
theorem dL_law_696 : decode cL_law 696 = .ok (.goto 1251, 3) := by decide +kernel
theorem dL_law_699 : decode cL_law 699 = .ok (.iload 15, 2) := by decide +kernel
theorem dL_law_701 : decode cL_law 701 = .ok (.ifCond .ne 20, 3) := by decide +kernel
theorem dL_law_704 : decode cL_law 704 = .ok (.aload_n 1, 1) := by decide +kernel
theorem dL_law_705 : decode cL_law 705 = .ok (.iconst 0, 1) := by decide +kernel
theorem dL_law_706 : decode cL_law 706 = .ok (.iload 14, 2) := by decide +kernel
theorem dL_law_708 : decode cL_law 708 = .ok (.iload 19, 2) := by decide +kernel
theorem dL_law_710 : decode cL_law 710 = .ok (.iload 17, 2) := by decide +kernel
theorem dL_law_712 : decode cL_law 712 = .ok (.invokestatic 119, 3) := by decide +kernel
theorem dL_law_715 : decode cL_law 715 = .ok (.iconst 2, 1) := by decide +kernel
theorem dL_law_716 : decode cL_law 716 = .ok (.if_icmp .eq 1231, 3) := by decide +kernel
theorem dL_law_719 : decode cL_law 719 = .ok (.iconst 0, 1) := by decide +kernel
theorem dL_law_720 : decode cL_law 720 = .ok (.ireturn, 1) := by decide +kernel
theorem dL_law_721 : decode cL_law 721 = .ok (.iload 14, 2) := by decide +kernel
theorem dL_law_723 : decode cL_law 723 = .ok (.ifCond .le 36, 3) := by decide +kernel
theorem dL_law_726 : decode cL_law 726 = .ok (.bipush 7, 2) := by decide +kernel
theorem dL_law_728 : decode cL_law 728 = .ok (.aload_n 3, 1) := by decide +kernel
theorem dL_law_729 : decode cL_law 729 = .ok (.iconst 5, 1) := by decide +kernel
theorem dL_law_730 : decode cL_law 730 = .ok (.iload 14, 2) := by decide +kernel
theorem dL_law_732 : decode cL_law 732 = .ok (.imul, 1) := by decide +kernel
theorem dL_law_733 : decode cL_law 733 = .ok (.iconst 1, 1) := by decide +kernel
theorem dL_law_734 : decode cL_law 734 = .ok (.iadd, 1) := by decide +kernel
theorem dL_law_735 : decode cL_law 735 = .ok (.iaload, 1) := by decide +kernel
theorem dL_law_736 : decode cL_law 736 = .ok (.iconst (-1), 1) := by decide +kernel
theorem dL_law_737 : decode cL_law 737 = .ok (.ixor, 1) := by decide +kernel
theorem dL_law_738 : decode cL_law 738 = .ok (.iand, 1) := by decide +kernel
theorem dL_law_739 : decode cL_law 739 = .ok (.ifCond .eq 20, 3) := by decide +kernel
theorem dL_law_742 : decode cL_law 742 = .ok (.aload_n 1, 1) := by decide +kernel
theorem dL_law_743 : decode cL_law 743 = .ok (.iconst 0, 1) := by decide +kernel
theorem dL_law_744 : decode cL_law 744 = .ok (.iload 14, 2) := by decide +kernel
theorem dL_law_746 : decode cL_law 746 = .ok (.bipush 7, 2) := by decide +kernel
theorem dL_law_748 : decode cL_law 748 = .ok (.iload 17, 2) := by decide +kernel
theorem dL_law_750 : decode cL_law 750 = .ok (.invokestatic 119, 3) := by decide +kernel
theorem dL_law_753 : decode cL_law 753 = .ok (.iconst 1, 1) := by decide +kernel
theorem dL_law_754 : decode cL_law 754 = .ok (.if_icmp .eq 5, 3) := by decide +kernel
theorem dL_law_757 : decode cL_law 757 = .ok (.iconst 0, 1) := by decide +kernel
theorem dL_law_758 : decode cL_law 758 = .ok (.ireturn, 1) := by decide +kernel
theorem dL_law_759 : decode cL_law 759 = .ok (.aload_n 2, 1) := by decide +kernel
theorem dL_law_760 : decode cL_law 760 = .ok (.iconst 3, 1) := by decide +kernel
theorem dL_law_761 : decode cL_law 761 = .ok (.iaload, 1) := by decide +kernel
theorem dL_law_762 : decode cL_law 762 = .ok (.istore 20, 2) := by decide +kernel
theorem dL_law_764 : decode cL_law 764 = .ok (.aload_n 3, 1) := by decide +kernel
theorem dL_law_765 : decode cL_law 765 = .ok (.iconst 5, 1) := by decide +kernel
theorem dL_law_766 : decode cL_law 766 = .ok (.iload 20, 2) := by decide +kernel
theorem dL_law_768 : decode cL_law 768 = .ok (.imul, 1) := by decide +kernel
theorem dL_law_769 : decode cL_law 769 = .ok (.iload 14, 2) := by decide +kernel
theorem dL_law_771 : decode cL_law 771 = .ok (.iastore, 1) := by decide +kernel
theorem dL_law_772 : decode cL_law 772 = .ok (.aload_n 3, 1) := by decide +kernel
theorem dL_law_773 : decode cL_law 773 = .ok (.iconst 5, 1) := by decide +kernel
theorem dL_law_774 : decode cL_law 774 = .ok (.iload 20, 2) := by decide +kernel
end
section
theorem dL_law_776 : decode cL_law 776 = .ok (.imul, 1) := by decide +kernel
theorem dL_law_777 : decode cL_law 777 = .ok (.iconst 1, 1) := by decide +kernel
theorem dL_law_778 : decode cL_law 778 = .ok (.iadd, 1) := by decide +kernel
theorem dL_law_779 : decode cL_law 779 = .ok (.iload 19, 2) := by decide +kernel
theorem dL_law_781 : decode cL_law 781 = .ok (.iastore, 1) := by decide +kernel
theorem dL_law_782 : decode cL_law 782 = .ok (.aload_n 3, 1) := by decide +kernel
theorem dL_law_783 : decode cL_law 783 = .ok (.iconst 5, 1) := by decide +kernel
theorem dL_law_784 : decode cL_law 784 = .ok (.iload 20, 2) := by decide +kernel
theorem dL_law_786 : decode cL_law 786 = .ok (.imul, 1) := by decide +kernel
theorem dL_law_787 : decode cL_law 787 = .ok (.iconst 2, 1) := by decide +kernel
theorem dL_law_788 : decode cL_law 788 = .ok (.iadd, 1) := by decide +kernel
theorem dL_law_789 : decode cL_law 789 = .ok (.aload_n 2, 1) := by decide +kernel
theorem dL_law_790 : decode cL_law 790 = .ok (.iconst 0, 1) := by decide +kernel
theorem dL_law_791 : decode cL_law 791 = .ok (.iaload, 1) := by decide +kernel
theorem dL_law_792 : decode cL_law 792 = .ok (.iload 17, 2) := by decide +kernel
theorem dL_law_794 : decode cL_law 794 = .ok (.iadd, 1) := by decide +kernel
theorem dL_law_795 : decode cL_law 795 = .ok (.iastore, 1) := by decide +kernel
theorem dL_law_796 : decode cL_law 796 = .ok (.aload_n 3, 1) := by decide +kernel
theorem dL_law_797 : decode cL_law 797 = .ok (.iconst 5, 1) := by decide +kernel
theorem dL_law_798 : decode cL_law 798 = .ok (.iload 20, 2) := by decide +kernel
theorem dL_law_800 : decode cL_law 800 = .ok (.imul, 1) := by decide +kernel
theorem dL_law_801 : decode cL_law 801 = .ok (.iconst 3, 1) := by decide +kernel
theorem dL_law_802 : decode cL_law 802 = .ok (.iadd, 1) := by decide +kernel
theorem dL_law_803 : decode cL_law 803 = .ok (.aload_n 2, 1) := by decide +kernel
theorem dL_law_804 : decode cL_law 804 = .ok (.iconst 0, 1) := by decide +kernel
theorem dL_law_805 : decode cL_law 805 = .ok (.iaload, 1) := by decide +kernel
theorem dL_law_806 : decode cL_law 806 = .ok (.iload 18, 2) := by decide +kernel
theorem dL_law_808 : decode cL_law 808 = .ok (.iadd, 1) := by decide +kernel
theorem dL_law_809 : decode cL_law 809 = .ok (.iastore, 1) := by decide +kernel
theorem dL_law_810 : decode cL_law 810 = .ok (.aload_n 3, 1) := by decide +kernel
theorem dL_law_811 : decode cL_law 811 = .ok (.iconst 5, 1) := by decide +kernel
theorem dL_law_812 : decode cL_law 812 = .ok (.iload 20, 2) := by decide +kernel
theorem dL_law_814 : decode cL_law 814 = .ok (.imul, 1) := by decide +kernel
theorem dL_law_815 : decode cL_law 815 = .ok (.iconst 4, 1) := by decide +kernel
theorem dL_law_816 : decode cL_law 816 = .ok (.iadd, 1) := by decide +kernel
theorem dL_law_817 : decode cL_law 817 = .ok (.iload 11, 2) := by decide +kernel
theorem dL_law_819 : decode cL_law 819 = .ok (.bipush 9, 2) := by decide +kernel
theorem dL_law_821 : decode cL_law 821 = .ok (.ishr, 1) := by decide +kernel
theorem dL_law_822 : decode cL_law 822 = .ok (.iconst 2, 1) := by decide +kernel
theorem dL_law_823 : decode cL_law 823 = .ok (.invokestatic 113, 3) := by decide +kernel
theorem dL_law_826 : decode cL_law 826 = .ok (.ifCond .ne 7, 3) := by decide +kernel
theorem dL_law_829 : decode cL_law 829 = .ok (.iconst (-1), 1) := by decide +kernel
theorem dL_law_830 : decode cL_law 830 = .ok (.goto 14, 3) := by decide +kernel
theorem dL_law_833 : decode cL_law 833 = .ok (.iconst 1, 1) := by decide +kernel
theorem dL_law_834 : decode cL_law 834 = .ok (.iload 12, 2) := by decide +kernel
theorem dL_law_836 : decode cL_law 836 = .ok (.bipush 20, 2) := by decide +kernel
theorem dL_law_838 : decode cL_law 838 = .ok (.ishr, 1) := by decide +kernel
theorem dL_law_839 : decode cL_law 839 = .ok (.iconst 3, 1) := by decide +kernel
theorem dL_law_840 : decode cL_law 840 = .ok (.invokestatic 113, 3) := by decide +kernel
theorem dL_law_843 : decode cL_law 843 = .ok (.iadd, 1) := by decide +kernel
theorem dL_law_844 : decode cL_law 844 = .ok (.iastore, 1) := by decide +kernel
theorem dL_law_845 : decode cL_law 845 = .ok (.aload_n 2, 1) := by decide +kernel
theorem dL_law_846 : decode cL_law 846 = .ok (.iconst 3, 1) := by decide +kernel
theorem dL_law_847 : decode cL_law 847 = .ok (.iload 20, 2) := by decide +kernel
theorem dL_law_849 : decode cL_law 849 = .ok (.iconst 1, 1) := by decide +kernel
theorem dL_law_850 : decode cL_law 850 = .ok (.iadd, 1) := by decide +kernel
theorem dL_law_851 : decode cL_law 851 = .ok (.iastore, 1) := by decide +kernel
theorem dL_law_852 : decode cL_law 852 = .ok (.aload_n 1, 1) := by decide +kernel
theorem dL_law_853 : decode cL_law 853 = .ok (.iload 14, 2) := by decide +kernel
theorem dL_law_855 : decode cL_law 855 = .ok (.iload 19, 2) := by decide +kernel
theorem dL_law_857 : decode cL_law 857 = .ok (.iload 17, 2) := by decide +kernel
theorem dL_law_859 : decode cL_law 859 = .ok (.iload 18, 2) := by decide +kernel
theorem dL_law_861 : decode cL_law 861 = .ok (.aload_n 3, 1) := by decide +kernel
theorem dL_law_862 : decode cL_law 862 = .ok (.iconst 5, 1) := by decide +kernel
theorem dL_law_863 : decode cL_law 863 = .ok (.iload 20, 2) := by decide +kernel
theorem dL_law_865 : decode cL_law 865 = .ok (.imul, 1) := by decide +kernel
theorem dL_law_866 : decode cL_law 866 = .ok (.iconst 4, 1) := by decide +kernel
theorem dL_law_867 : decode cL_law 867 = .ok (.iadd, 1) := by decide +kernel
theorem dL_law_868 : decode cL_law 868 = .ok (.iaload, 1) := by decide +kernel
theorem dL_law_869 : decode cL_law 869 = .ok (.ifCond .ge 7, 3) := by decide +kernel
theorem dL_law_872 : decode cL_law 872 = .ok (.iconst 0, 1) := by decide +kernel
theorem dL_law_873 : decode cL_law 873 = .ok (.goto 11, 3) := by decide +kernel
theorem dL_law_876 : decode cL_law 876 = .ok (.aload_n 3, 1) := by decide +kernel
theorem dL_law_877 : decode cL_law 877 = .ok (.iconst 5, 1) := by decide +kernel
theorem dL_law_878 : decode cL_law 878 = .ok (.iload 20, 2) := by decide +kernel
theorem dL_law_880 : decode cL_law 880 = .ok (.imul, 1) := by decide +kernel
theorem dL_law_881 : decode cL_law 881 = .ok (.iconst 4, 1) := by decide +kernel
theorem dL_law_882 : decode cL_law 882 = .ok (.iadd, 1) := by decide +kernel
theorem dL_law_883 : decode cL_law 883 = .ok (.iaload, 1) := by decide +kernel
theorem dL_law_884 : decode cL_law 884 = .ok (.invokevirtual 43, 3) := by decide +kernel
theorem dL_law_887 : decode cL_law 887 = .ok (.iload 20, 2) := by decide +kernel
theorem dL_law_889 : decode cL_law 889 = .ok (.if_icmp .ne 18, 3) := by decide +kernel
theorem dL_law_892 : decode cL_law 892 = .ok (.aload_n 1, 1) := by decide +kernel
theorem dL_law_893 : decode cL_law 893 = .ok (.iconst 0, 1) := by decide +kernel
theorem dL_law_894 : decode cL_law 894 = .ok (.iload 14, 2) := by decide +kernel
theorem dL_law_896 : decode cL_law 896 = .ok (.iload 20, 2) := by decide +kernel
theorem dL_law_898 : decode cL_law 898 = .ok (.aload_n 2, 1) := by decide +kernel
theorem dL_law_899 : decode cL_law 899 = .ok (.aload 9, 2) := by decide +kernel
theorem dL_law_901 : decode cL_law 901 = .ok (.invokestatic 163, 3) := by decide +kernel
theorem dL_law_904 : decode cL_law 904 = .ok (.ifCond .ne 5, 3) := by decide +kernel
theorem dL_law_907 : decode cL_law 907 = .ok (.iconst 0, 1) := by decide +kernel
theorem dL_law_908 : decode cL_law 908 = .ok (.ireturn, 1) := by decide +kernel
theorem dL_law_909 : decode cL_law 909 = .ok (.goto 1021, 3) := by decide +kernel
theorem dL_law_912 : decode cL_law 912 = .ok (.iload 13, 2) := by decide +kernel
theorem dL_law_914 : decode cL_law 914 = .ok (.bipush 7, 2) := by decide +kernel
theorem dL_law_916 : decode cL_law 916 = .ok (.if_icmp .ne 157, 3) := by decide +kernel
theorem dL_law_919 : decode cL_law 919 = .ok (.iconst 1, 1) := by decide +kernel
theorem dL_law_920 : decode cL_law 920 = .ok (.iload 12, 2) := by decide +kernel
theorem dL_law_922 : decode cL_law 922 = .ok (.iconst 4, 1) := by decide +kernel
theorem dL_law_923 : decode cL_law 923 = .ok (.ishr, 1) := by decide +kernel
theorem dL_law_924 : decode cL_law 924 = .ok (.bipush 60, 2) := by decide +kernel
theorem dL_law_926 : decode cL_law 926 = .ok (.invokestatic 113, 3) := by decide +kernel
theorem dL_law_929 : decode cL_law 929 = .ok (.iadd, 1) := by decide +kernel
theorem dL_law_930 : decode cL_law 930 = .ok (.istore 17, 2) := by decide +kernel
theorem dL_law_932 : decode cL_law 932 = .ok (.iload 14, 2) := by decide +kernel
theorem dL_law_934 : decode cL_law 934 = .ok (.ifCond .eq 8, 3) := by decide +kernel
theorem dL_law_937 : decode cL_law 937 = .ok (.iload 15, 2) := by decide +kernel
theorem dL_law_939 : decode cL_law 939 = .ok (.ifCond .ne 19, 3) := by decide +kernel
theorem dL_law_942 : decode cL_law 942 = .ok (.aload_n 1, 1) := by decide +kernel
theorem dL_law_943 : decode cL_law 943 = .ok (.iconst 1, 1) := by decide +kernel
theorem dL_law_944 : decode cL_law 944 = .ok (.iload 14, 2) := by decide +kernel
theorem dL_law_946 : decode cL_law 946 = .ok (.iload 17, 2) := by decide +kernel
theorem dL_law_948 : decode cL_law 948 = .ok (.iconst 0, 1) := by decide +kernel
theorem dL_law_949 : decode cL_law 949 = .ok (.invokestatic 119, 3) := by decide +kernel
theorem dL_law_952 : decode cL_law 952 = .ok (.iconst 2, 1) := by decide +kernel
theorem dL_law_953 : decode cL_law 953 = .ok (.if_icmp .eq 994, 3) := by decide +kernel
theorem dL_law_956 : decode cL_law 956 = .ok (.iconst 0, 1) := by decide +kernel
theorem dL_law_957 : decode cL_law 957 = .ok (.ireturn, 1) := by decide +kernel
theorem dL_law_958 : decode cL_law 958 = .ok (.aload_n 2, 1) := by decide +kernel
theorem dL_law_959 : decode cL_law 959 = .ok (.iconst 0, 1) := by decide +kernel
theorem dL_law_960 : decode cL_law 960 = .ok (.iaload, 1) := by decide +kernel
theorem dL_law_961 : decode cL_law 961 = .ok (.iload 17, 2) := by decide +kernel
theorem dL_law_963 : decode cL_law 963 = .ok (.iadd, 1) := by decide +kernel
theorem dL_law_964 : decode cL_law 964 = .ok (.aload_n 3, 1) := by decide +kernel
theorem dL_law_965 : decode cL_law 965 = .ok (.iconst 5, 1) := by decide +kernel
theorem dL_law_966 : decode cL_law 966 = .ok (.iload 14, 2) := by decide +kernel
theorem dL_law_968 : decode cL_law 968 = .ok (.imul, 1) := by decide +kernel
theorem dL_law_969 : decode cL_law 969 = .ok (.iconst 3, 1) := by decide +kernel
theorem dL_law_970 : decode cL_law 970 = .ok (.iadd, 1) := by decide +kernel
theorem dL_law_971 : decode cL_law 971 = .ok (.iaload, 1) := by decide +kernel
theorem dL_law_972 : decode cL_law 972 = .ok (.if_icmp .ge 12, 3) := by decide +kernel
theorem dL_law_975 : decode cL_law 975 = .ok (.aload_n 2, 1) := by decide +kernel
theorem dL_law_976 : decode cL_law 976 = .ok (.iconst 0, 1) := by decide +kernel
theorem dL_law_977 : decode cL_law 977 = .ok (.iaload, 1) := by decide +kernel
theorem dL_law_978 : decode cL_law 978 = .ok (.iload 17, 2) := by decide +kernel
theorem dL_law_980 : decode cL_law 980 = .ok (.iadd, 1) := by decide +kernel
theorem dL_law_981 : decode cL_law 981 = .ok (.goto 11, 3) := by decide +kernel
theorem dL_law_984 : decode cL_law 984 = .ok (.aload_n 3, 1) := by decide +kernel
theorem dL_law_985 : decode cL_law 985 = .ok (.iconst 5, 1) := by decide +kernel
theorem dL_law_986 : decode cL_law 986 = .ok (.iload 14, 2) := by decide +kernel
theorem dL_law_988 : decode cL_law 988 = .ok (.imul, 1) := by decide +kernel
theorem dL_law_989 : decode cL_law 989 = .ok (.iconst 3, 1) := by decide +kernel
theorem dL_law_990 : decode cL_law 990 = .ok (.iadd, 1) := by decide +kernel
theorem dL_law_991 : decode cL_law 991 = .ok (.iaload, 1) := by decide +kernel
theorem dL_law_992 : decode cL_law 992 = .ok (.istore 18, 2) := by decide +kernel
theorem dL_law_994 : decode cL_law 994 = .ok (.aload_n 3, 1) := by decide +kernel
theorem dL_law_995 : decode cL_law 995 = .ok (.iconst 5, 1) := by decide +kernel
theorem dL_law_996 : decode cL_law 996 = .ok (.iload 14, 2) := by decide +kernel
theorem dL_law_998 : decode cL_law 998 = .ok (.imul, 1) := by decide +kernel
theorem dL_law_999 : decode cL_law 999 = .ok (.iconst 2, 1) := by decide +kernel
theorem dL_law_1000 : decode cL_law 1000 = .ok (.iadd, 1) := by decide +kernel
theorem dL_law_1001 : decode cL_law 1001 = .ok (.iload 18, 2) := by decide +kernel
theorem dL_law_1003 : decode cL_law 1003 = .ok (.aload_n 3, 1) := by decide +kernel
theorem dL_law_1004 : decode cL_law 1004 = .ok (.iconst 5, 1) := by decide +kernel
theorem dL_law_1005 : decode cL_law 1005 = .ok (.iload 14, 2) := by decide +kernel
theorem dL_law_1007 : decode cL_law 1007 = .ok (.imul, 1) := by decide +kernel
theorem dL_law_1008 : decode cL_law 1008 = .ok (.iconst 2, 1) := by decide +kernel
theorem dL_law_1009 : decode cL_law 1009 = .ok (.iadd, 1) := by decide +kernel
theorem dL_law_1010 : decode cL_law 1010 = .ok (.iaload, 1) := by decide +kernel
theorem dL_law_1011 : decode cL_law 1011 = .ok (.if_icmp .le 8, 3) := by decide +kernel
theorem dL_law_1014 : decode cL_law 1014 = .ok (.iload 18, 2) := by decide +kernel
theorem dL_law_1016 : decode cL_law 1016 = .ok (.goto 11, 3) := by decide +kernel
theorem dL_law_1019 : decode cL_law 1019 = .ok (.aload_n 3, 1) := by decide +kernel
theorem dL_law_1020 : decode cL_law 1020 = .ok (.iconst 5, 1) := by decide +kernel
theorem dL_law_1021 : decode cL_law 1021 = .ok (.iload 14, 2) := by decide +kernel
theorem dL_law_1023 : decode cL_law 1023 = .ok (.imul, 1) := by decide +kernel
theorem dL_law_1024 : decode cL_law 1024 = .ok (.iconst 2, 1) := by decide +kernel
theorem dL_law_1025 : decode cL_law 1025 = .ok (.iadd, 1) := by decide +kernel
theorem dL_law_1026 : decode cL_law 1026 = .ok (.iaload, 1) := by decide +kernel
theorem dL_law_1027 : decode cL_law 1027 = .ok (.iastore, 1) := by decide +kernel
theorem dL_law_1028 : decode cL_law 1028 = .ok (.aload_n 1, 1) := by decide +kernel
theorem dL_law_1029 : decode cL_law 1029 = .ok (.iload 14, 2) := by decide +kernel
theorem dL_law_1031 : decode cL_law 1031 = .ok (.iload 17, 2) := by decide +kernel
theorem dL_law_1033 : decode cL_law 1033 = .ok (.invokevirtual 49, 3) := by decide +kernel
theorem dL_law_1036 : decode cL_law 1036 = .ok (.aload_n 3, 1) := by decide +kernel
theorem dL_law_1037 : decode cL_law 1037 = .ok (.iconst 5, 1) := by decide +kernel
theorem dL_law_1038 : decode cL_law 1038 = .ok (.iload 14, 2) := by decide +kernel
theorem dL_law_1040 : decode cL_law 1040 = .ok (.imul, 1) := by decide +kernel
theorem dL_law_1041 : decode cL_law 1041 = .ok (.iconst 2, 1) := by decide +kernel
theorem dL_law_1042 : decode cL_law 1042 = .ok (.iadd, 1) := by decide +kernel
theorem dL_law_1043 : decode cL_law 1043 = .ok (.iaload, 1) := by decide +kernel
theorem dL_law_1044 : decode cL_law 1044 = .ok (.if_icmp .ne 24, 3) := by decide +kernel
theorem dL_law_1047 : decode cL_law 1047 = .ok (.aload_n 1, 1) := by decide +kernel
theorem dL_law_1048 : decode cL_law 1048 = .ok (.iconst 1, 1) := by decide +kernel
theorem dL_law_1049 : decode cL_law 1049 = .ok (.iload 14, 2) := by decide +kernel
theorem dL_law_1051 : decode cL_law 1051 = .ok (.aload_n 3, 1) := by decide +kernel
theorem dL_law_1052 : decode cL_law 1052 = .ok (.iconst 5, 1) := by decide +kernel
theorem dL_law_1053 : decode cL_law 1053 = .ok (.iload 14, 2) := by decide +kernel
theorem dL_law_1055 : decode cL_law 1055 = .ok (.imul, 1) := by decide +kernel
theorem dL_law_1056 : decode cL_law 1056 = .ok (.iconst 2, 1) := by decide +kernel
theorem dL_law_1057 : decode cL_law 1057 = .ok (.iadd, 1) := by decide +kernel
theorem dL_law_1058 : decode cL_law 1058 = .ok (.iaload, 1) := by decide +kernel
theorem dL_law_1059 : decode cL_law 1059 = .ok (.aload_n 2, 1) := by decide +kernel
theorem dL_law_1060 : decode cL_law 1060 = .ok (.aload 9, 2) := by decide +kernel
theorem dL_law_1062 : decode cL_law 1062 = .ok (.invokestatic 163, 3) := by decide +kernel
theorem dL_law_1065 : decode cL_law 1065 = .ok (.ifCond .ne 5, 3) := by decide +kernel
theorem dL_law_1068 : decode cL_law 1068 = .ok (.iconst 0, 1) := by decide +kernel
theorem dL_law_1069 : decode cL_law 1069 = .ok (.ireturn, 1) := by decide +kernel
theorem dL_law_1070 : decode cL_law 1070 = .ok (.goto 860, 3) := by decide +kernel
theorem dL_law_1073 : decode cL_law 1073 = .ok (.iload 13, 2) := by decide +kernel
theorem dL_law_1075 : decode cL_law 1075 = .ok (.bipush 10, 2) := by decide +kernel
theorem dL_law_1077 : decode cL_law 1077 = .ok (.if_icmp .ge 186, 3) := by decide +kernel
theorem dL_law_1080 : decode cL_law 1080 = .ok (.iload 13, 2) := by decide +kernel
theorem dL_law_1082 : decode cL_law 1082 = .ok (.bipush 8, 2) := by decide +kernel
theorem dL_law_1084 : decode cL_law 1084 = .ok (.if_icmp .ne 7, 3) := by decide +kernel
theorem dL_law_1087 : decode cL_law 1087 = .ok (.iconst 1, 1) := by decide +kernel
theorem dL_law_1088 : decode cL_law 1088 = .ok (.goto 4, 3) := by decide +kernel
theorem dL_law_1091 : decode cL_law 1091 = .ok (.iconst 0, 1) := by decide +kernel
theorem dL_law_1092 : decode cL_law 1092 = .ok (.istore 17, 2) := by decide +kernel
theorem dL_law_1094 : decode cL_law 1094 = .ok (.iload 14, 2) := by decide +kernel
theorem dL_law_1096 : decode cL_law 1096 = .ok (.ifCond .eq 8, 3) := by decide +kernel
theorem dL_law_1099 : decode cL_law 1099 = .ok (.iload 15, 2) := by decide +kernel
theorem dL_law_1101 : decode cL_law 1101 = .ok (.ifCond .ne 27, 3) := by decide +kernel
theorem dL_law_1104 : decode cL_law 1104 = .ok (.aload_n 1, 1) := by decide +kernel
theorem dL_law_1105 : decode cL_law 1105 = .ok (.iload 17, 2) := by decide +kernel
theorem dL_law_1107 : decode cL_law 1107 = .ok (.ifCond .eq 7, 3) := by decide +kernel
theorem dL_law_1110 : decode cL_law 1110 = .ok (.iconst 3, 1) := by decide +kernel
theorem dL_law_1111 : decode cL_law 1111 = .ok (.goto 4, 3) := by decide +kernel
theorem dL_law_1114 : decode cL_law 1114 = .ok (.iconst 2, 1) := by decide +kernel
theorem dL_law_1115 : decode cL_law 1115 = .ok (.iload 14, 2) := by decide +kernel
theorem dL_law_1117 : decode cL_law 1117 = .ok (.iconst 0, 1) := by decide +kernel
theorem dL_law_1118 : decode cL_law 1118 = .ok (.iconst 0, 1) := by decide +kernel
theorem dL_law_1119 : decode cL_law 1119 = .ok (.invokestatic 119, 3) := by decide +kernel
theorem dL_law_1122 : decode cL_law 1122 = .ok (.iconst 2, 1) := by decide +kernel
theorem dL_law_1123 : decode cL_law 1123 = .ok (.if_icmp .eq 824, 3) := by decide +kernel
theorem dL_law_1126 : decode cL_law 1126 = .ok (.iconst 0, 1) := by decide +kernel
theorem dL_law_1127 : decode cL_law 1127 = .ok (.ireturn, 1) := by decide +kernel
theorem dL_law_1128 : decode cL_law 1128 = .ok (.iconst 1, 1) := by decide +kernel
theorem dL_law_1129 : decode cL_law 1129 = .ok (.istore 18, 2) := by decide +kernel
theorem dL_law_1131 : decode cL_law 1131 = .ok (.iload 18, 2) := by decide +kernel
theorem dL_law_1133 : decode cL_law 1133 = .ok (.aload_n 2, 1) := by decide +kernel
theorem dL_law_1134 : decode cL_law 1134 = .ok (.iconst 3, 1) := by decide +kernel
theorem dL_law_1135 : decode cL_law 1135 = .ok (.iaload, 1) := by decide +kernel
theorem dL_law_1136 : decode cL_law 1136 = .ok (.if_icmp .ge 51, 3) := by decide +kernel
theorem dL_law_1139 : decode cL_law 1139 = .ok (.iload 17, 2) := by decide +kernel
theorem dL_law_1141 : decode cL_law 1141 = .ok (.ifCond .eq 46, 3) := by decide +kernel
theorem dL_law_1144 : decode cL_law 1144 = .ok (.aload_n 3, 1) := by decide +kernel
theorem dL_law_1145 : decode cL_law 1145 = .ok (.iconst 5, 1) := by decide +kernel
theorem dL_law_1146 : decode cL_law 1146 = .ok (.iload 18, 2) := by decide +kernel
theorem dL_law_1148 : decode cL_law 1148 = .ok (.imul, 1) := by decide +kernel
theorem dL_law_1149 : decode cL_law 1149 = .ok (.aload_n 3, 1) := by decide +kernel
theorem dL_law_1150 : decode cL_law 1150 = .ok (.iconst 5, 1) := by decide +kernel
theorem dL_law_1151 : decode cL_law 1151 = .ok (.iload 18, 2) := by decide +kernel
theorem dL_law_1153 : decode cL_law 1153 = .ok (.imul, 1) := by decide +kernel
theorem dL_law_1154 : decode cL_law 1154 = .ok (.iaload, 1) := by decide +kernel
theorem dL_law_1155 : decode cL_law 1155 = .ok (.iload 14, 2) := by decide +kernel
theorem dL_law_1157 : decode cL_law 1157 = .ok (.if_icmp .ne 17, 3) := by decide +kernel
theorem dL_law_1160 : decode cL_law 1160 = .ok (.iload 18, 2) := by decide +kernel
theorem dL_law_1162 : decode cL_law 1162 = .ok (.aload_n 2, 1) := by decide +kernel
theorem dL_law_1163 : decode cL_law 1163 = .ok (.aload_n 3, 1) := by decide +kernel
theorem dL_law_1164 : decode cL_law 1164 = .ok (.invokestatic 23, 3) := by decide +kernel
theorem dL_law_1167 : decode cL_law 1167 = .ok (.ifCond .eq 7, 3) := by decide +kernel
theorem dL_law_1170 : decode cL_law 1170 = .ok (.iconst (-1), 1) := by decide +kernel
theorem dL_law_1171 : decode cL_law 1171 = .ok (.goto 9, 3) := by decide +kernel
theorem dL_law_1174 : decode cL_law 1174 = .ok (.aload_n 3, 1) := by decide +kernel
theorem dL_law_1175 : decode cL_law 1175 = .ok (.iconst 5, 1) := by decide +kernel
theorem dL_law_1176 : decode cL_law 1176 = .ok (.iload 18, 2) := by decide +kernel
theorem dL_law_1178 : decode cL_law 1178 = .ok (.imul, 1) := by decide +kernel
theorem dL_law_1179 : decode cL_law 1179 = .ok (.iaload, 1) := by decide +kernel
theorem dL_law_1180 : decode cL_law 1180 = .ok (.iastore, 1) := by decide +kernel
theorem dL_law_1181 : decode cL_law 1181 = .ok (.iinc 18 1, 3) := by decide +kernel
theorem dL_law_1184 : decode cL_law 1184 = .ok (.goto (-53), 3) := by decide +kernel
theorem dL_law_1187 : decode cL_law 1187 = .ok (.aload_n 3, 1) := by decide +kernel
theorem dL_law_1188 : decode cL_law 1188 = .ok (.iconst 5, 1) := by decide +kernel
theorem dL_law_1189 : decode cL_law 1189 = .ok (.iload 14, 2) := by decide +kernel
theorem dL_law_1191 : decode cL_law 1191 = .ok (.imul, 1) := by decide +kernel
theorem dL_law_1192 : decode cL_law 1192 = .ok (.iconst 3, 1) := by decide +kernel
theorem dL_law_1193 : decode cL_law 1193 = .ok (.iadd, 1) := by decide +kernel
theorem dL_law_1194 : decode cL_law 1194 = .ok (.iconst (-1), 1) := by decide +kernel
theorem dL_law_1195 : decode cL_law 1195 = .ok (.iastore, 1) := by decide +kernel
theorem dL_law_1196 : decode cL_law 1196 = .ok (.iload 16, 2) := by decide +kernel
theorem dL_law_1198 : decode cL_law 1198 = .ok (.aload_n 2, 1) := by decide +kernel
theorem dL_law_1199 : decode cL_law 1199 = .ok (.aload_n 3, 1) := by decide +kernel
theorem dL_law_1200 : decode cL_law 1200 = .ok (.invokestatic 126, 3) := by decide +kernel
theorem dL_law_1203 : decode cL_law 1203 = .ok (.isub, 1) := by decide +kernel
theorem dL_law_1204 : decode cL_law 1204 = .ok (.aload_n 2, 1) := by decide +kernel
theorem dL_law_1205 : decode cL_law 1205 = .ok (.aload_n 3, 1) := by decide +kernel
theorem dL_law_1206 : decode cL_law 1206 = .ok (.aload 4, 2) := by decide +kernel
theorem dL_law_1208 : decode cL_law 1208 = .ok (.invokestatic 133, 3) := by decide +kernel
theorem dL_law_1211 : decode cL_law 1211 = .ok (.isub, 1) := by decide +kernel
theorem dL_law_1212 : decode cL_law 1212 = .ok (.istore 18, 2) := by decide +kernel
theorem dL_law_1214 : decode cL_law 1214 = .ok (.iload 17, 2) := by decide +kernel
theorem dL_law_1216 : decode cL_law 1216 = .ok (.ifCond .eq 12, 3) := by decide +kernel
theorem dL_law_1219 : decode cL_law 1219 = .ok (.aload_n 1, 1) := by decide +kernel
theorem dL_law_1220 : decode cL_law 1220 = .ok (.iload 14, 2) := by decide +kernel
theorem dL_law_1222 : decode cL_law 1222 = .ok (.invokevirtual 56, 3) := by decide +kernel
theorem dL_law_1225 : decode cL_law 1225 = .ok (.goto 9, 3) := by decide +kernel
theorem dL_law_1228 : decode cL_law 1228 = .ok (.aload_n 1, 1) := by decide +kernel
theorem dL_law_1229 : decode cL_law 1229 = .ok (.iload 14, 2) := by decide +kernel
theorem dL_law_1231 : decode cL_law 1231 = .ok (.invokevirtual 53, 3) := by decide +kernel
theorem dL_law_1234 : decode cL_law 1234 = .ok (.istore 19, 2) := by decide +kernel
theorem dL_law_1236 : decode cL_law 1236 = .ok (.iload 19, 2) := by decide +kernel
theorem dL_law_1238 : decode cL_law 1238 = .ok (.iload 18, 2) := by decide +kernel
theorem dL_law_1240 : decode cL_law 1240 = .ok (.if_icmp .ne 18, 3) := by decide +kernel
theorem dL_law_1243 : decode cL_law 1243 = .ok (.aload_n 1, 1) := by decide +kernel
theorem dL_law_1244 : decode cL_law 1244 = .ok (.iconst 4, 1) := by decide +kernel
theorem dL_law_1245 : decode cL_law 1245 = .ok (.iload 14, 2) := by decide +kernel
theorem dL_law_1247 : decode cL_law 1247 = .ok (.iload 18, 2) := by decide +kernel
theorem dL_law_1249 : decode cL_law 1249 = .ok (.aload_n 2, 1) := by decide +kernel
theorem dL_law_1250 : decode cL_law 1250 = .ok (.aload 9, 2) := by decide +kernel
end
section
theorem dL_law_1252 : decode cL_law 1252 = .ok (.invokestatic 163, 3) := by decide +kernel
theorem dL_law_1255 : decode cL_law 1255 = .ok (.ifCond .ne 5, 3) := by decide +kernel
theorem dL_law_1258 : decode cL_law 1258 = .ok (.iconst 0, 1) := by decide +kernel
theorem dL_law_1259 : decode cL_law 1259 = .ok (.ireturn, 1) := by decide +kernel
theorem dL_law_1260 : decode cL_law 1260 = .ok (.goto 670, 3) := by decide +kernel
theorem dL_law_1263 : decode cL_law 1263 = .ok (.iload 13, 2) := by decide +kernel
theorem dL_law_1265 : decode cL_law 1265 = .ok (.bipush 15, 2) := by decide +kernel
theorem dL_law_1267 : decode cL_law 1267 = .ok (.if_icmp .ge 272, 3) := by decide +kernel
theorem dL_law_1270 : decode cL_law 1270 = .ok (.iload 12, 2) := by decide +kernel
theorem dL_law_1272 : decode cL_law 1272 = .ok (.iconst 4, 1) := by decide +kernel
theorem dL_law_1273 : decode cL_law 1273 = .ok (.ishr, 1) := by decide +kernel
theorem dL_law_1274 : decode cL_law 1274 = .ok (.iconst 2, 1) := by decide +kernel
theorem dL_law_1275 : decode cL_law 1275 = .ok (.invokestatic 153, 3) := by decide +kernel
theorem dL_law_1278 : decode cL_law 1278 = .ok (.istore 17, 2) := by decide +kernel
theorem dL_law_1280 : decode cL_law 1280 = .ok (.iload 14, 2) := by decide +kernel
theorem dL_law_1282 : decode cL_law 1282 = .ok (.iload 17, 2) := by decide +kernel
theorem dL_law_1284 : decode cL_law 1284 = .ok (.aload_n 2, 1) := by decide +kernel
theorem dL_law_1285 : decode cL_law 1285 = .ok (.aload_n 3, 1) := by decide +kernel
theorem dL_law_1286 : decode cL_law 1286 = .ok (.aload 8, 2) := by decide +kernel
theorem dL_law_1288 : decode cL_law 1288 = .ok (.aload 5, 2) := by decide +kernel
theorem dL_law_1290 : decode cL_law 1290 = .ok (.aload 6, 2) := by decide +kernel
theorem dL_law_1292 : decode cL_law 1292 = .ok (.aload 7, 2) := by decide +kernel
theorem dL_law_1294 : decode cL_law 1294 = .ok (.invokestatic 167, 3) := by decide +kernel
theorem dL_law_1297 : decode cL_law 1297 = .ok (.istore 18, 2) := by decide +kernel
theorem dL_law_1299 : decode cL_law 1299 = .ok (.iload 18, 2) := by decide +kernel
theorem dL_law_1301 : decode cL_law 1301 = .ok (.ifCond .ne 14, 3) := by decide +kernel
theorem dL_law_1304 : decode cL_law 1304 = .ok (.aload_n 2, 1) := by decide +kernel
theorem dL_law_1305 : decode cL_law 1305 = .ok (.iconst 4, 1) := by decide +kernel
theorem dL_law_1306 : decode cL_law 1306 = .ok (.iaload, 1) := by decide +kernel
theorem dL_law_1307 : decode cL_law 1307 = .ok (.bipush 12, 2) := by decide +kernel
theorem dL_law_1309 : decode cL_law 1309 = .ok (.if_icmp .ne 6, 3) := by decide +kernel
theorem dL_law_1312 : decode cL_law 1312 = .ok (.goto 635, 3) := by decide +kernel
theorem dL_law_1315 : decode cL_law 1315 = .ok (.aload_n 1, 1) := by decide +kernel
theorem dL_law_1316 : decode cL_law 1316 = .ok (.iload 14, 2) := by decide +kernel
theorem dL_law_1318 : decode cL_law 1318 = .ok (.iload 17, 2) := by decide +kernel
theorem dL_law_1320 : decode cL_law 1320 = .ok (.invokevirtual 171, 3) := by decide +kernel
theorem dL_law_1323 : decode cL_law 1323 = .ok (.iload 18, 2) := by decide +kernel
theorem dL_law_1325 : decode cL_law 1325 = .ok (.if_icmp .ne 28, 3) := by decide +kernel
theorem dL_law_1328 : decode cL_law 1328 = .ok (.aload_n 1, 1) := by decide +kernel
theorem dL_law_1329 : decode cL_law 1329 = .ok (.iload 14, 2) := by decide +kernel
theorem dL_law_1331 : decode cL_law 1331 = .ok (.iload 17, 2) := by decide +kernel
theorem dL_law_1333 : decode cL_law 1333 = .ok (.invokevirtual 174, 3) := by decide +kernel
theorem dL_law_1336 : decode cL_law 1336 = .ok (.iload 14, 2) := by decide +kernel
theorem dL_law_1338 : decode cL_law 1338 = .ok (.iload 17, 2) := by decide +kernel
theorem dL_law_1340 : decode cL_law 1340 = .ok (.aload_n 3, 1) := by decide +kernel
theorem dL_law_1341 : decode cL_law 1341 = .ok (.aload 5, 2) := by decide +kernel
theorem dL_law_1343 : decode cL_law 1343 = .ok (.aload 6, 2) := by decide +kernel
theorem dL_law_1345 : decode cL_law 1345 = .ok (.aload 7, 2) := by decide +kernel
theorem dL_law_1347 : decode cL_law 1347 = .ok (.invokestatic 39, 3) := by decide +kernel
theorem dL_law_1350 : decode cL_law 1350 = .ok (.if_icmp .eq 5, 3) := by decide +kernel
theorem dL_law_1353 : decode cL_law 1353 = .ok (.iconst 0, 1) := by decide +kernel
theorem dL_law_1354 : decode cL_law 1354 = .ok (.ireturn, 1) := by decide +kernel
theorem dL_law_1355 : decode cL_law 1355 = .ok (.aload_n 3, 1) := by decide +kernel
theorem dL_law_1356 : decode cL_law 1356 = .ok (.iconst 5, 1) := by decide +kernel
theorem dL_law_1357 : decode cL_law 1357 = .ok (.iload 14, 2) := by decide +kernel
theorem dL_law_1359 : decode cL_law 1359 = .ok (.imul, 1) := by decide +kernel
theorem dL_law_1360 : decode cL_law 1360 = .ok (.iconst 4, 1) := by decide +kernel
theorem dL_law_1361 : decode cL_law 1361 = .ok (.iadd, 1) := by decide +kernel
theorem dL_law_1362 : decode cL_law 1362 = .ok (.dup2, 1) := by decide +kernel
theorem dL_law_1363 : decode cL_law 1363 = .ok (.iaload, 1) := by decide +kernel
theorem dL_law_1364 : decode cL_law 1364 = .ok (.iload 15, 2) := by decide +kernel
theorem dL_law_1366 : decode cL_law 1366 = .ok (.ifCond .eq 18, 3) := by decide +kernel
theorem dL_law_1369 : decode cL_law 1369 = .ok (.aload_n 3, 1) := by decide +kernel
theorem dL_law_1370 : decode cL_law 1370 = .ok (.iconst 5, 1) := by decide +kernel
theorem dL_law_1371 : decode cL_law 1371 = .ok (.iload 14, 2) := by decide +kernel
theorem dL_law_1373 : decode cL_law 1373 = .ok (.imul, 1) := by decide +kernel
theorem dL_law_1374 : decode cL_law 1374 = .ok (.iconst 4, 1) := by decide +kernel
theorem dL_law_1375 : decode cL_law 1375 = .ok (.iadd, 1) := by decide +kernel
theorem dL_law_1376 : decode cL_law 1376 = .ok (.iaload, 1) := by decide +kernel
theorem dL_law_1377 : decode cL_law 1377 = .ok (.ifCond .le 7, 3) := by decide +kernel
theorem dL_law_1380 : decode cL_law 1380 = .ok (.iconst 1, 1) := by decide +kernel
theorem dL_law_1381 : decode cL_law 1381 = .ok (.goto 4, 3) := by decide +kernel
theorem dL_law_1384 : decode cL_law 1384 = .ok (.iconst 0, 1) := by decide +kernel
theorem dL_law_1385 : decode cL_law 1385 = .ok (.isub, 1) := by decide +kernel
theorem dL_law_1386 : decode cL_law 1386 = .ok (.iastore, 1) := by decide +kernel
theorem dL_law_1387 : decode cL_law 1387 = .ok (.aload_n 2, 1) := by decide +kernel
theorem dL_law_1388 : decode cL_law 1388 = .ok (.iconst 4, 1) := by decide +kernel
theorem dL_law_1389 : decode cL_law 1389 = .ok (.iaload, 1) := by decide +kernel
theorem dL_law_1390 : decode cL_law 1390 = .ok (.istore 19, 2) := by decide +kernel
theorem dL_law_1392 : decode cL_law 1392 = .ok (.iload 18, 2) := by decide +kernel
theorem dL_law_1394 : decode cL_law 1394 = .ok (.ifCond .ne 84, 3) := by decide +kernel
theorem dL_law_1397 : decode cL_law 1397 = .ok (.iload 17, 2) := by decide +kernel
theorem dL_law_1399 : decode cL_law 1399 = .ok (.aload_n 2, 1) := by decide +kernel
theorem dL_law_1400 : decode cL_law 1400 = .ok (.aload 8, 2) := by decide +kernel
theorem dL_law_1402 : decode cL_law 1402 = .ok (.invokestatic 35, 3) := by decide +kernel
theorem dL_law_1405 : decode cL_law 1405 = .ok (.istore 20, 2) := by decide +kernel
theorem dL_law_1407 : decode cL_law 1407 = .ok (.aload 4, 2) := by decide +kernel
theorem dL_law_1409 : decode cL_law 1409 = .ok (.iconst 5, 1) := by decide +kernel
theorem dL_law_1410 : decode cL_law 1410 = .ok (.iload 19, 2) := by decide +kernel
theorem dL_law_1412 : decode cL_law 1412 = .ok (.imul, 1) := by decide +kernel
theorem dL_law_1413 : decode cL_law 1413 = .ok (.iload 14, 2) := by decide +kernel
theorem dL_law_1415 : decode cL_law 1415 = .ok (.iastore, 1) := by decide +kernel
theorem dL_law_1416 : decode cL_law 1416 = .ok (.aload 4, 2) := by decide +kernel
theorem dL_law_1418 : decode cL_law 1418 = .ok (.iconst 5, 1) := by decide +kernel
theorem dL_law_1419 : decode cL_law 1419 = .ok (.iload 19, 2) := by decide +kernel
theorem dL_law_1421 : decode cL_law 1421 = .ok (.imul, 1) := by decide +kernel
theorem dL_law_1422 : decode cL_law 1422 = .ok (.iconst 1, 1) := by decide +kernel
theorem dL_law_1423 : decode cL_law 1423 = .ok (.iadd, 1) := by decide +kernel
theorem dL_law_1424 : decode cL_law 1424 = .ok (.iload 17, 2) := by decide +kernel
theorem dL_law_1426 : decode cL_law 1426 = .ok (.iastore, 1) := by decide +kernel
theorem dL_law_1427 : decode cL_law 1427 = .ok (.aload 4, 2) := by decide +kernel
theorem dL_law_1429 : decode cL_law 1429 = .ok (.iconst 5, 1) := by decide +kernel
theorem dL_law_1430 : decode cL_law 1430 = .ok (.iload 19, 2) := by decide +kernel
theorem dL_law_1432 : decode cL_law 1432 = .ok (.imul, 1) := by decide +kernel
theorem dL_law_1433 : decode cL_law 1433 = .ok (.iconst 2, 1) := by decide +kernel
theorem dL_law_1434 : decode cL_law 1434 = .ok (.iadd, 1) := by decide +kernel
theorem dL_law_1435 : decode cL_law 1435 = .ok (.aload_n 2, 1) := by decide +kernel
theorem dL_law_1436 : decode cL_law 1436 = .ok (.iconst 0, 1) := by decide +kernel
theorem dL_law_1437 : decode cL_law 1437 = .ok (.iaload, 1) := by decide +kernel
theorem dL_law_1438 : decode cL_law 1438 = .ok (.aload 8, 2) := by decide +kernel
theorem dL_law_1440 : decode cL_law 1440 = .ok (.iconst 3, 1) := by decide +kernel
theorem dL_law_1441 : decode cL_law 1441 = .ok (.iload 20, 2) := by decide +kernel
theorem dL_law_1443 : decode cL_law 1443 = .ok (.imul, 1) := by decide +kernel
theorem dL_law_1444 : decode cL_law 1444 = .ok (.iconst 1, 1) := by decide +kernel
theorem dL_law_1445 : decode cL_law 1445 = .ok (.iadd, 1) := by decide +kernel
theorem dL_law_1446 : decode cL_law 1446 = .ok (.iaload, 1) := by decide +kernel
theorem dL_law_1447 : decode cL_law 1447 = .ok (.iadd, 1) := by decide +kernel
theorem dL_law_1448 : decode cL_law 1448 = .ok (.iastore, 1) := by decide +kernel
theorem dL_law_1449 : decode cL_law 1449 = .ok (.aload 4, 2) := by decide +kernel
theorem dL_law_1451 : decode cL_law 1451 = .ok (.iconst 5, 1) := by decide +kernel
theorem dL_law_1452 : decode cL_law 1452 = .ok (.iload 19, 2) := by decide +kernel
theorem dL_law_1454 : decode cL_law 1454 = .ok (.imul, 1) := by decide +kernel
theorem dL_law_1455 : decode cL_law 1455 = .ok (.iconst 3, 1) := by decide +kernel
theorem dL_law_1456 : decode cL_law 1456 = .ok (.iadd, 1) := by decide +kernel
theorem dL_law_1457 : decode cL_law 1457 = .ok (.aload_n 2, 1) := by decide +kernel
theorem dL_law_1458 : decode cL_law 1458 = .ok (.iconst 0, 1) := by decide +kernel
theorem dL_law_1459 : decode cL_law 1459 = .ok (.iaload, 1) := by decide +kernel
theorem dL_law_1460 : decode cL_law 1460 = .ok (.aload 8, 2) := by decide +kernel
theorem dL_law_1462 : decode cL_law 1462 = .ok (.iconst 3, 1) := by decide +kernel
theorem dL_law_1463 : decode cL_law 1463 = .ok (.iload 20, 2) := by decide +kernel
theorem dL_law_1465 : decode cL_law 1465 = .ok (.imul, 1) := by decide +kernel
theorem dL_law_1466 : decode cL_law 1466 = .ok (.iconst 2, 1) := by decide +kernel
theorem dL_law_1467 : decode cL_law 1467 = .ok (.iadd, 1) := by decide +kernel
theorem dL_law_1468 : decode cL_law 1468 = .ok (.iaload, 1) := by decide +kernel
theorem dL_law_1469 : decode cL_law 1469 = .ok (.iadd, 1) := by decide +kernel
theorem dL_law_1470 : decode cL_law 1470 = .ok (.iastore, 1) := by decide +kernel
theorem dL_law_1471 : decode cL_law 1471 = .ok (.aload_n 2, 1) := by decide +kernel
theorem dL_law_1472 : decode cL_law 1472 = .ok (.iconst 4, 1) := by decide +kernel
theorem dL_law_1473 : decode cL_law 1473 = .ok (.iload 19, 2) := by decide +kernel
theorem dL_law_1475 : decode cL_law 1475 = .ok (.iconst 1, 1) := by decide +kernel
theorem dL_law_1476 : decode cL_law 1476 = .ok (.iadd, 1) := by decide +kernel
theorem dL_law_1477 : decode cL_law 1477 = .ok (.iastore, 1) := by decide +kernel
theorem dL_law_1478 : decode cL_law 1478 = .ok (.aload_n 1, 1) := by decide +kernel
theorem dL_law_1479 : decode cL_law 1479 = .ok (.iload 14, 2) := by decide +kernel
theorem dL_law_1481 : decode cL_law 1481 = .ok (.iload 17, 2) := by decide +kernel
theorem dL_law_1483 : decode cL_law 1483 = .ok (.invokevirtual 68, 3) := by decide +kernel
theorem dL_law_1486 : decode cL_law 1486 = .ok (.iload 18, 2) := by decide +kernel
theorem dL_law_1488 : decode cL_law 1488 = .ok (.ifCond .ne 8, 3) := by decide +kernel
theorem dL_law_1491 : decode cL_law 1491 = .ok (.iload 19, 2) := by decide +kernel
theorem dL_law_1493 : decode cL_law 1493 = .ok (.goto 4, 3) := by decide +kernel
theorem dL_law_1496 : decode cL_law 1496 = .ok (.iconst (-1), 1) := by decide +kernel
theorem dL_law_1497 : decode cL_law 1497 = .ok (.if_icmp .ne 37, 3) := by decide +kernel
theorem dL_law_1500 : decode cL_law 1500 = .ok (.aload_n 1, 1) := by decide +kernel
theorem dL_law_1501 : decode cL_law 1501 = .ok (.iload 18, 2) := by decide +kernel
theorem dL_law_1503 : decode cL_law 1503 = .ok (.ifCond .ne 7, 3) := by decide +kernel
theorem dL_law_1506 : decode cL_law 1506 = .ok (.iconst 2, 1) := by decide +kernel
theorem dL_law_1507 : decode cL_law 1507 = .ok (.goto 4, 3) := by decide +kernel
theorem dL_law_1510 : decode cL_law 1510 = .ok (.iconst 3, 1) := by decide +kernel
theorem dL_law_1511 : decode cL_law 1511 = .ok (.iload 14, 2) := by decide +kernel
theorem dL_law_1513 : decode cL_law 1513 = .ok (.iload 18, 2) := by decide +kernel
theorem dL_law_1515 : decode cL_law 1515 = .ok (.ifCond .ne 8, 3) := by decide +kernel
theorem dL_law_1518 : decode cL_law 1518 = .ok (.iload 19, 2) := by decide +kernel
theorem dL_law_1520 : decode cL_law 1520 = .ok (.goto 5, 3) := by decide +kernel
theorem dL_law_1523 : decode cL_law 1523 = .ok (.iload 18, 2) := by decide +kernel
theorem dL_law_1525 : decode cL_law 1525 = .ok (.aload_n 2, 1) := by decide +kernel
theorem dL_law_1526 : decode cL_law 1526 = .ok (.aload 9, 2) := by decide +kernel
theorem dL_law_1528 : decode cL_law 1528 = .ok (.invokestatic 163, 3) := by decide +kernel
theorem dL_law_1531 : decode cL_law 1531 = .ok (.ifCond .ne 5, 3) := by decide +kernel
theorem dL_law_1534 : decode cL_law 1534 = .ok (.iconst 0, 1) := by decide +kernel
theorem dL_law_1535 : decode cL_law 1535 = .ok (.ireturn, 1) := by decide +kernel
theorem dL_law_1536 : decode cL_law 1536 = .ok (.goto 394, 3) := by decide +kernel
theorem dL_law_1539 : decode cL_law 1539 = .ok (.iload 13, 2) := by decide +kernel
theorem dL_law_1541 : decode cL_law 1541 = .ok (.bipush 15, 2) := by decide +kernel
theorem dL_law_1543 : decode cL_law 1543 = .ok (.if_icmp .ne 193, 3) := by decide +kernel
theorem dL_law_1546 : decode cL_law 1546 = .ok (.aload_n 2, 1) := by decide +kernel
theorem dL_law_1547 : decode cL_law 1547 = .ok (.iconst 4, 1) := by decide +kernel
theorem dL_law_1548 : decode cL_law 1548 = .ok (.iaload, 1) := by decide +kernel
theorem dL_law_1549 : decode cL_law 1549 = .ok (.ifCond .ne 6, 3) := by decide +kernel
theorem dL_law_1552 : decode cL_law 1552 = .ok (.goto 395, 3) := by decide +kernel
theorem dL_law_1555 : decode cL_law 1555 = .ok (.iload 12, 2) := by decide +kernel
theorem dL_law_1557 : decode cL_law 1557 = .ok (.iconst 4, 1) := by decide +kernel
theorem dL_law_1558 : decode cL_law 1558 = .ok (.ishr, 1) := by decide +kernel
theorem dL_law_1559 : decode cL_law 1559 = .ok (.aload_n 2, 1) := by decide +kernel
theorem dL_law_1560 : decode cL_law 1560 = .ok (.iconst 4, 1) := by decide +kernel
theorem dL_law_1561 : decode cL_law 1561 = .ok (.iaload, 1) := by decide +kernel
theorem dL_law_1562 : decode cL_law 1562 = .ok (.invokestatic 113, 3) := by decide +kernel
theorem dL_law_1565 : decode cL_law 1565 = .ok (.istore 17, 2) := by decide +kernel
theorem dL_law_1567 : decode cL_law 1567 = .ok (.iconst 1, 1) := by decide +kernel
theorem dL_law_1568 : decode cL_law 1568 = .ok (.iload 12, 2) := by decide +kernel
theorem dL_law_1570 : decode cL_law 1570 = .ok (.bipush 9, 2) := by decide +kernel
theorem dL_law_1572 : decode cL_law 1572 = .ok (.ishr, 1) := by decide +kernel
theorem dL_law_1573 : decode cL_law 1573 = .ok (.bipush 60, 2) := by decide +kernel
theorem dL_law_1575 : decode cL_law 1575 = .ok (.invokestatic 113, 3) := by decide +kernel
theorem dL_law_1578 : decode cL_law 1578 = .ok (.iadd, 1) := by decide +kernel
theorem dL_law_1579 : decode cL_law 1579 = .ok (.istore 18, 2) := by decide +kernel
theorem dL_law_1581 : decode cL_law 1581 = .ok (.iload 17, 2) := by decide +kernel
theorem dL_law_1583 : decode cL_law 1583 = .ok (.aload_n 2, 1) := by decide +kernel
theorem dL_law_1584 : decode cL_law 1584 = .ok (.aload_n 3, 1) := by decide +kernel
theorem dL_law_1585 : decode cL_law 1585 = .ok (.aload 4, 2) := by decide +kernel
theorem dL_law_1587 : decode cL_law 1587 = .ok (.invokestatic 27, 3) := by decide +kernel
theorem dL_law_1590 : decode cL_law 1590 = .ok (.ifCond .ne 19, 3) := by decide +kernel
theorem dL_law_1593 : decode cL_law 1593 = .ok (.aload_n 1, 1) := by decide +kernel
theorem dL_law_1594 : decode cL_law 1594 = .ok (.iconst 4, 1) := by decide +kernel
theorem dL_law_1595 : decode cL_law 1595 = .ok (.iload 17, 2) := by decide +kernel
theorem dL_law_1597 : decode cL_law 1597 = .ok (.iload 18, 2) := by decide +kernel
theorem dL_law_1599 : decode cL_law 1599 = .ok (.iconst 0, 1) := by decide +kernel
theorem dL_law_1600 : decode cL_law 1600 = .ok (.invokestatic 119, 3) := by decide +kernel
theorem dL_law_1603 : decode cL_law 1603 = .ok (.iconst 2, 1) := by decide +kernel
theorem dL_law_1604 : decode cL_law 1604 = .ok (.if_icmp .eq 343, 3) := by decide +kernel
theorem dL_law_1607 : decode cL_law 1607 = .ok (.iconst 0, 1) := by decide +kernel
theorem dL_law_1608 : decode cL_law 1608 = .ok (.ireturn, 1) := by decide +kernel
theorem dL_law_1609 : decode cL_law 1609 = .ok (.aload_n 2, 1) := by decide +kernel
theorem dL_law_1610 : decode cL_law 1610 = .ok (.iconst 0, 1) := by decide +kernel
theorem dL_law_1611 : decode cL_law 1611 = .ok (.iaload, 1) := by decide +kernel
theorem dL_law_1612 : decode cL_law 1612 = .ok (.iload 18, 2) := by decide +kernel
theorem dL_law_1614 : decode cL_law 1614 = .ok (.iadd, 1) := by decide +kernel
theorem dL_law_1615 : decode cL_law 1615 = .ok (.aload 4, 2) := by decide +kernel
theorem dL_law_1617 : decode cL_law 1617 = .ok (.iconst 5, 1) := by decide +kernel
theorem dL_law_1618 : decode cL_law 1618 = .ok (.iload 17, 2) := by decide +kernel
theorem dL_law_1620 : decode cL_law 1620 = .ok (.imul, 1) := by decide +kernel
theorem dL_law_1621 : decode cL_law 1621 = .ok (.iconst 3, 1) := by decide +kernel
theorem dL_law_1622 : decode cL_law 1622 = .ok (.iadd, 1) := by decide +kernel
theorem dL_law_1623 : decode cL_law 1623 = .ok (.iaload, 1) := by decide +kernel
theorem dL_law_1624 : decode cL_law 1624 = .ok (.if_icmp .ge 12, 3) := by decide +kernel
theorem dL_law_1627 : decode cL_law 1627 = .ok (.aload_n 2, 1) := by decide +kernel
theorem dL_law_1628 : decode cL_law 1628 = .ok (.iconst 0, 1) := by decide +kernel
theorem dL_law_1629 : decode cL_law 1629 = .ok (.iaload, 1) := by decide +kernel
theorem dL_law_1630 : decode cL_law 1630 = .ok (.iload 18, 2) := by decide +kernel
theorem dL_law_1632 : decode cL_law 1632 = .ok (.iadd, 1) := by decide +kernel
theorem dL_law_1633 : decode cL_law 1633 = .ok (.goto 12, 3) := by decide +kernel
theorem dL_law_1636 : decode cL_law 1636 = .ok (.aload 4, 2) := by decide +kernel
theorem dL_law_1638 : decode cL_law 1638 = .ok (.iconst 5, 1) := by decide +kernel
theorem dL_law_1639 : decode cL_law 1639 = .ok (.iload 17, 2) := by decide +kernel
theorem dL_law_1641 : decode cL_law 1641 = .ok (.imul, 1) := by decide +kernel
theorem dL_law_1642 : decode cL_law 1642 = .ok (.iconst 3, 1) := by decide +kernel
theorem dL_law_1643 : decode cL_law 1643 = .ok (.iadd, 1) := by decide +kernel
theorem dL_law_1644 : decode cL_law 1644 = .ok (.iaload, 1) := by decide +kernel
theorem dL_law_1645 : decode cL_law 1645 = .ok (.istore 19, 2) := by decide +kernel
theorem dL_law_1647 : decode cL_law 1647 = .ok (.aload 4, 2) := by decide +kernel
theorem dL_law_1649 : decode cL_law 1649 = .ok (.iconst 5, 1) := by decide +kernel
theorem dL_law_1650 : decode cL_law 1650 = .ok (.iload 17, 2) := by decide +kernel
theorem dL_law_1652 : decode cL_law 1652 = .ok (.imul, 1) := by decide +kernel
theorem dL_law_1653 : decode cL_law 1653 = .ok (.iconst 2, 1) := by decide +kernel
theorem dL_law_1654 : decode cL_law 1654 = .ok (.iadd, 1) := by decide +kernel
theorem dL_law_1655 : decode cL_law 1655 = .ok (.iload 19, 2) := by decide +kernel
theorem dL_law_1657 : decode cL_law 1657 = .ok (.aload 4, 2) := by decide +kernel
theorem dL_law_1659 : decode cL_law 1659 = .ok (.iconst 5, 1) := by decide +kernel
theorem dL_law_1660 : decode cL_law 1660 = .ok (.iload 17, 2) := by decide +kernel
theorem dL_law_1662 : decode cL_law 1662 = .ok (.imul, 1) := by decide +kernel
theorem dL_law_1663 : decode cL_law 1663 = .ok (.iconst 2, 1) := by decide +kernel
theorem dL_law_1664 : decode cL_law 1664 = .ok (.iadd, 1) := by decide +kernel
theorem dL_law_1665 : decode cL_law 1665 = .ok (.iaload, 1) := by decide +kernel
theorem dL_law_1666 : decode cL_law 1666 = .ok (.if_icmp .le 8, 3) := by decide +kernel
theorem dL_law_1669 : decode cL_law 1669 = .ok (.iload 19, 2) := by decide +kernel
theorem dL_law_1671 : decode cL_law 1671 = .ok (.goto 12, 3) := by decide +kernel
theorem dL_law_1674 : decode cL_law 1674 = .ok (.aload 4, 2) := by decide +kernel
theorem dL_law_1676 : decode cL_law 1676 = .ok (.iconst 5, 1) := by decide +kernel
theorem dL_law_1677 : decode cL_law 1677 = .ok (.iload 17, 2) := by decide +kernel
theorem dL_law_1679 : decode cL_law 1679 = .ok (.imul, 1) := by decide +kernel
theorem dL_law_1680 : decode cL_law 1680 = .ok (.iconst 2, 1) := by decide +kernel
theorem dL_law_1681 : decode cL_law 1681 = .ok (.iadd, 1) := by decide +kernel
theorem dL_law_1682 : decode cL_law 1682 = .ok (.iaload, 1) := by decide +kernel
theorem dL_law_1683 : decode cL_law 1683 = .ok (.iastore, 1) := by decide +kernel
theorem dL_law_1684 : decode cL_law 1684 = .ok (.aload_n 1, 1) := by decide +kernel
theorem dL_law_1685 : decode cL_law 1685 = .ok (.iload 17, 2) := by decide +kernel
theorem dL_law_1687 : decode cL_law 1687 = .ok (.iload 18, 2) := by decide +kernel
theorem dL_law_1689 : decode cL_law 1689 = .ok (.invokevirtual 59, 3) := by decide +kernel
theorem dL_law_1692 : decode cL_law 1692 = .ok (.aload 4, 2) := by decide +kernel
theorem dL_law_1694 : decode cL_law 1694 = .ok (.iconst 5, 1) := by decide +kernel
theorem dL_law_1695 : decode cL_law 1695 = .ok (.iload 17, 2) := by decide +kernel
theorem dL_law_1697 : decode cL_law 1697 = .ok (.imul, 1) := by decide +kernel
theorem dL_law_1698 : decode cL_law 1698 = .ok (.iconst 2, 1) := by decide +kernel
theorem dL_law_1699 : decode cL_law 1699 = .ok (.iadd, 1) := by decide +kernel
theorem dL_law_1700 : decode cL_law 1700 = .ok (.iaload, 1) := by decide +kernel
theorem dL_law_1701 : decode cL_law 1701 = .ok (.if_icmp .ne 30, 3) := by decide +kernel
theorem dL_law_1704 : decode cL_law 1704 = .ok (.aload_n 1, 1) := by decide +kernel
theorem dL_law_1705 : decode cL_law 1705 = .ok (.iconst 1, 1) := by decide +kernel
theorem dL_law_1706 : decode cL_law 1706 = .ok (.aload 4, 2) := by decide +kernel
theorem dL_law_1708 : decode cL_law 1708 = .ok (.iconst 5, 1) := by decide +kernel
theorem dL_law_1709 : decode cL_law 1709 = .ok (.iload 17, 2) := by decide +kernel
theorem dL_law_1711 : decode cL_law 1711 = .ok (.imul, 1) := by decide +kernel
theorem dL_law_1712 : decode cL_law 1712 = .ok (.iaload, 1) := by decide +kernel
theorem dL_law_1713 : decode cL_law 1713 = .ok (.aload 4, 2) := by decide +kernel
theorem dL_law_1715 : decode cL_law 1715 = .ok (.iconst 5, 1) := by decide +kernel
theorem dL_law_1716 : decode cL_law 1716 = .ok (.iload 17, 2) := by decide +kernel
theorem dL_law_1718 : decode cL_law 1718 = .ok (.imul, 1) := by decide +kernel
theorem dL_law_1719 : decode cL_law 1719 = .ok (.iconst 2, 1) := by decide +kernel
theorem dL_law_1720 : decode cL_law 1720 = .ok (.iadd, 1) := by decide +kernel
theorem dL_law_1721 : decode cL_law 1721 = .ok (.iaload, 1) := by decide +kernel
theorem dL_law_1722 : decode cL_law 1722 = .ok (.aload_n 2, 1) := by decide +kernel
theorem dL_law_1723 : decode cL_law 1723 = .ok (.aload 9, 2) := by decide +kernel
theorem dL_law_1725 : decode cL_law 1725 = .ok (.invokestatic 163, 3) := by decide +kernel
theorem dL_law_1728 : decode cL_law 1728 = .ok (.ifCond .ne 5, 3) := by decide +kernel
theorem dL_law_1731 : decode cL_law 1731 = .ok (.iconst 0, 1) := by decide +kernel
theorem dL_law_1732 : decode cL_law 1732 = .ok (.ireturn, 1) := by decide +kernel
theorem dL_law_1733 : decode cL_law 1733 = .ok (.goto 197, 3) := by decide +kernel
theorem dL_law_1736 : decode cL_law 1736 = .ok (.iload 13, 2) := by decide +kernel
theorem dL_law_1738 : decode cL_law 1738 = .ok (.bipush 16, 2) := by decide +kernel
theorem dL_law_1740 : decode cL_law 1740 = .ok (.if_icmp .ne 108, 3) := by decide +kernel
theorem dL_law_1743 : decode cL_law 1743 = .ok (.iload 12, 2) := by decide +kernel
end
section
theorem dL_law_1745 : decode cL_law 1745 = .ok (.iconst 4, 1) := by decide +kernel
theorem dL_law_1746 : decode cL_law 1746 = .ok (.ishr, 1) := by decide +kernel
theorem dL_law_1747 : decode cL_law 1747 = .ok (.iconst 2, 1) := by decide +kernel
theorem dL_law_1748 : decode cL_law 1748 = .ok (.invokestatic 153, 3) := by decide +kernel
theorem dL_law_1751 : decode cL_law 1751 = .ok (.istore 17, 2) := by decide +kernel
theorem dL_law_1753 : decode cL_law 1753 = .ok (.iconst 0, 1) := by decide +kernel
theorem dL_law_1754 : decode cL_law 1754 = .ok (.istore 18, 2) := by decide +kernel
theorem dL_law_1756 : decode cL_law 1756 = .ok (.iconst 0, 1) := by decide +kernel
theorem dL_law_1757 : decode cL_law 1757 = .ok (.istore 19, 2) := by decide +kernel
theorem dL_law_1759 : decode cL_law 1759 = .ok (.iload 19, 2) := by decide +kernel
theorem dL_law_1761 : decode cL_law 1761 = .ok (.aload_n 2, 1) := by decide +kernel
theorem dL_law_1762 : decode cL_law 1762 = .ok (.iconst 4, 1) := by decide +kernel
theorem dL_law_1763 : decode cL_law 1763 = .ok (.iaload, 1) := by decide +kernel
theorem dL_law_1764 : decode cL_law 1764 = .ok (.if_icmp .ge 54, 3) := by decide +kernel
theorem dL_law_1767 : decode cL_law 1767 = .ok (.iload 19, 2) := by decide +kernel
theorem dL_law_1769 : decode cL_law 1769 = .ok (.aload_n 2, 1) := by decide +kernel
theorem dL_law_1770 : decode cL_law 1770 = .ok (.aload_n 3, 1) := by decide +kernel
theorem dL_law_1771 : decode cL_law 1771 = .ok (.aload 4, 2) := by decide +kernel
theorem dL_law_1773 : decode cL_law 1773 = .ok (.invokestatic 27, 3) := by decide +kernel
theorem dL_law_1776 : decode cL_law 1776 = .ok (.ifCond .eq 36, 3) := by decide +kernel
theorem dL_law_1779 : decode cL_law 1779 = .ok (.aload 4, 2) := by decide +kernel
theorem dL_law_1781 : decode cL_law 1781 = .ok (.iconst 5, 1) := by decide +kernel
theorem dL_law_1782 : decode cL_law 1782 = .ok (.iload 19, 2) := by decide +kernel
theorem dL_law_1784 : decode cL_law 1784 = .ok (.imul, 1) := by decide +kernel
theorem dL_law_1785 : decode cL_law 1785 = .ok (.iconst 1, 1) := by decide +kernel
theorem dL_law_1786 : decode cL_law 1786 = .ok (.iadd, 1) := by decide +kernel
theorem dL_law_1787 : decode cL_law 1787 = .ok (.iaload, 1) := by decide +kernel
theorem dL_law_1788 : decode cL_law 1788 = .ok (.iload 17, 2) := by decide +kernel
theorem dL_law_1790 : decode cL_law 1790 = .ok (.invokestatic 31, 3) := by decide +kernel
theorem dL_law_1793 : decode cL_law 1793 = .ok (.ifCond .ne 6, 3) := by decide +kernel
theorem dL_law_1796 : decode cL_law 1796 = .ok (.goto 16, 3) := by decide +kernel
theorem dL_law_1799 : decode cL_law 1799 = .ok (.aload 4, 2) := by decide +kernel
theorem dL_law_1801 : decode cL_law 1801 = .ok (.iconst 5, 1) := by decide +kernel
theorem dL_law_1802 : decode cL_law 1802 = .ok (.iload 19, 2) := by decide +kernel
theorem dL_law_1804 : decode cL_law 1804 = .ok (.imul, 1) := by decide +kernel
theorem dL_law_1805 : decode cL_law 1805 = .ok (.iconst 4, 1) := by decide +kernel
theorem dL_law_1806 : decode cL_law 1806 = .ok (.iadd, 1) := by decide +kernel
theorem dL_law_1807 : decode cL_law 1807 = .ok (.iconst 1, 1) := by decide +kernel
theorem dL_law_1808 : decode cL_law 1808 = .ok (.iastore, 1) := by decide +kernel
theorem dL_law_1809 : decode cL_law 1809 = .ok (.iinc 18 1, 3) := by decide +kernel
theorem dL_law_1812 : decode cL_law 1812 = .ok (.iinc 19 1, 3) := by decide +kernel
theorem dL_law_1815 : decode cL_law 1815 = .ok (.goto (-56), 3) := by decide +kernel
theorem dL_law_1818 : decode cL_law 1818 = .ok (.aload_n 1, 1) := by decide +kernel
theorem dL_law_1819 : decode cL_law 1819 = .ok (.iload 17, 2) := by decide +kernel
theorem dL_law_1821 : decode cL_law 1821 = .ok (.invokevirtual 177, 3) := by decide +kernel
theorem dL_law_1824 : decode cL_law 1824 = .ok (.iload 18, 2) := by decide +kernel
theorem dL_law_1826 : decode cL_law 1826 = .ok (.if_icmp .ne 17, 3) := by decide +kernel
theorem dL_law_1829 : decode cL_law 1829 = .ok (.aload_n 1, 1) := by decide +kernel
theorem dL_law_1830 : decode cL_law 1830 = .ok (.iconst 4, 1) := by decide +kernel
theorem dL_law_1831 : decode cL_law 1831 = .ok (.iconst 0, 1) := by decide +kernel
theorem dL_law_1832 : decode cL_law 1832 = .ok (.iload 18, 2) := by decide +kernel
theorem dL_law_1834 : decode cL_law 1834 = .ok (.aload_n 2, 1) := by decide +kernel
theorem dL_law_1835 : decode cL_law 1835 = .ok (.aload 9, 2) := by decide +kernel
theorem dL_law_1837 : decode cL_law 1837 = .ok (.invokestatic 163, 3) := by decide +kernel
theorem dL_law_1840 : decode cL_law 1840 = .ok (.ifCond .ne 5, 3) := by decide +kernel
theorem dL_law_1843 : decode cL_law 1843 = .ok (.iconst 0, 1) := by decide +kernel
theorem dL_law_1844 : decode cL_law 1844 = .ok (.ireturn, 1) := by decide +kernel
theorem dL_law_1845 : decode cL_law 1845 = .ok (.goto 85, 3) := by decide +kernel
theorem dL_law_1848 : decode cL_law 1848 = .ok (.iconst 1, 1) := by decide +kernel
theorem dL_law_1849 : decode cL_law 1849 = .ok (.iload 12, 2) := by decide +kernel
theorem dL_law_1851 : decode cL_law 1851 = .ok (.iconst 4, 1) := by decide +kernel
theorem dL_law_1852 : decode cL_law 1852 = .ok (.ishr, 1) := by decide +kernel
theorem dL_law_1853 : decode cL_law 1853 = .ok (.iload 13, 2) := by decide +kernel
theorem dL_law_1855 : decode cL_law 1855 = .ok (.bipush 17, 2) := by decide +kernel
theorem dL_law_1857 : decode cL_law 1857 = .ok (.if_icmp .ne 8, 3) := by decide +kernel
theorem dL_law_1860 : decode cL_law 1860 = .ok (.bipush 30, 2) := by decide +kernel
theorem dL_law_1862 : decode cL_law 1862 = .ok (.goto 4, 3) := by decide +kernel
theorem dL_law_1865 : decode cL_law 1865 = .ok (.iconst 5, 1) := by decide +kernel
theorem dL_law_1866 : decode cL_law 1866 = .ok (.invokestatic 113, 3) := by decide +kernel
theorem dL_law_1869 : decode cL_law 1869 = .ok (.iadd, 1) := by decide +kernel
theorem dL_law_1870 : decode cL_law 1870 = .ok (.istore 17, 2) := by decide +kernel
theorem dL_law_1872 : decode cL_law 1872 = .ok (.aload_n 2, 1) := by decide +kernel
theorem dL_law_1873 : decode cL_law 1873 = .ok (.iconst 0, 1) := by decide +kernel
theorem dL_law_1874 : decode cL_law 1874 = .ok (.dup2, 1) := by decide +kernel
theorem dL_law_1875 : decode cL_law 1875 = .ok (.iaload, 1) := by decide +kernel
theorem dL_law_1876 : decode cL_law 1876 = .ok (.iload 17, 2) := by decide +kernel
theorem dL_law_1878 : decode cL_law 1878 = .ok (.iadd, 1) := by decide +kernel
theorem dL_law_1879 : decode cL_law 1879 = .ok (.iastore, 1) := by decide +kernel
theorem dL_law_1880 : decode cL_law 1880 = .ok (.iload 16, 2) := by decide +kernel
theorem dL_law_1882 : decode cL_law 1882 = .ok (.aload_n 2, 1) := by decide +kernel
theorem dL_law_1883 : decode cL_law 1883 = .ok (.aload_n 3, 1) := by decide +kernel
theorem dL_law_1884 : decode cL_law 1884 = .ok (.invokestatic 126, 3) := by decide +kernel
theorem dL_law_1887 : decode cL_law 1887 = .ok (.isub, 1) := by decide +kernel
theorem dL_law_1888 : decode cL_law 1888 = .ok (.aload_n 2, 1) := by decide +kernel
theorem dL_law_1889 : decode cL_law 1889 = .ok (.aload_n 3, 1) := by decide +kernel
theorem dL_law_1890 : decode cL_law 1890 = .ok (.aload 4, 2) := by decide +kernel
theorem dL_law_1892 : decode cL_law 1892 = .ok (.invokestatic 133, 3) := by decide +kernel
theorem dL_law_1895 : decode cL_law 1895 = .ok (.isub, 1) := by decide +kernel
theorem dL_law_1896 : decode cL_law 1896 = .ok (.istore 18, 2) := by decide +kernel
theorem dL_law_1898 : decode cL_law 1898 = .ok (.aload_n 1, 1) := by decide +kernel
theorem dL_law_1899 : decode cL_law 1899 = .ok (.iload 17, 2) := by decide +kernel
theorem dL_law_1901 : decode cL_law 1901 = .ok (.invokevirtual 180, 3) := by decide +kernel
theorem dL_law_1904 : decode cL_law 1904 = .ok (.iload 18, 2) := by decide +kernel
theorem dL_law_1906 : decode cL_law 1906 = .ok (.if_icmp .ne 22, 3) := by decide +kernel
theorem dL_law_1909 : decode cL_law 1909 = .ok (.iload 18, 2) := by decide +kernel
theorem dL_law_1911 : decode cL_law 1911 = .ok (.ifCond .le 19, 3) := by decide +kernel
theorem dL_law_1914 : decode cL_law 1914 = .ok (.aload_n 1, 1) := by decide +kernel
theorem dL_law_1915 : decode cL_law 1915 = .ok (.iconst 5, 1) := by decide +kernel
theorem dL_law_1916 : decode cL_law 1916 = .ok (.iconst 0, 1) := by decide +kernel
theorem dL_law_1917 : decode cL_law 1917 = .ok (.iload 18, 2) := by decide +kernel
theorem dL_law_1919 : decode cL_law 1919 = .ok (.aload_n 2, 1) := by decide +kernel
theorem dL_law_1920 : decode cL_law 1920 = .ok (.aload 9, 2) := by decide +kernel
theorem dL_law_1922 : decode cL_law 1922 = .ok (.invokestatic 163, 3) := by decide +kernel
theorem dL_law_1925 : decode cL_law 1925 = .ok (.ifCond .ne 5, 3) := by decide +kernel
theorem dL_law_1928 : decode cL_law 1928 = .ok (.iconst 0, 1) := by decide +kernel
theorem dL_law_1929 : decode cL_law 1929 = .ok (.ireturn, 1) := by decide +kernel
theorem dL_law_1930 : decode cL_law 1930 = .ok (.aload_n 1, 1) := by decide +kernel
theorem dL_law_1931 : decode cL_law 1931 = .ok (.iload 11, 2) := by decide +kernel
theorem dL_law_1933 : decode cL_law 1933 = .ok (.iconst 5, 1) := by decide +kernel
theorem dL_law_1934 : decode cL_law 1934 = .ok (.ishr, 1) := by decide +kernel
theorem dL_law_1935 : decode cL_law 1935 = .ok (.aload_n 2, 1) := by decide +kernel
theorem dL_law_1936 : decode cL_law 1936 = .ok (.aload_n 3, 1) := by decide +kernel
theorem dL_law_1937 : decode cL_law 1937 = .ok (.aload 4, 2) := by decide +kernel
theorem dL_law_1939 : decode cL_law 1939 = .ok (.invokestatic 183, 3) := by decide +kernel
theorem dL_law_1942 : decode cL_law 1942 = .ok (.ifCond .ne 5, 3) := by decide +kernel
theorem dL_law_1945 : decode cL_law 1945 = .ok (.iconst 0, 1) := by decide +kernel
theorem dL_law_1946 : decode cL_law 1946 = .ok (.ireturn, 1) := by decide +kernel
theorem dL_law_1947 : decode cL_law 1947 = .ok (.iinc 10 1, 3) := by decide +kernel
theorem dL_law_1950 : decode cL_law 1950 = .ok (.goto (-1850), 3) := by decide +kernel
theorem dL_law_1953 : decode cL_law 1953 = .ok (.iconst 1, 1) := by decide +kernel
theorem dL_law_1954 : decode cL_law 1954 = .ok (.ireturn, 1) := by decide +kernel
end
