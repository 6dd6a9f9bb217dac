theorem lw_pre_spec {args : Array Value} {s : State} (h : (Jvm.Cond.and given_1 narrow_1).before args s = true) (hr : rest_1_c.before args s = true) : ∃ (b : Addr) (xs : List Int32), lw_P b xs args s := by
  have hs := flat_of_before _ h
  have hq := flat_of_before _ hr
  have hc : (Cond.count 1).before args s = true := hs _ (by decide +kernel)
  have harr : (Cond.arrayOf (.arg 0) .int).before args s = true := hs _ (by decide +kernel)
  have hle : (Cond.le (.length (.arg 0)) (.int 260)).before args s = true := hs _ (by decide +kernel)
  have hlen : (Cond.isInt (.length (.arg 0))).before args s = true := hq _ (by decide +kernel)
  have hall : (Cond.all (.arg 0) (.isInt (.elem (.arg 0) (.index 0)))).before args s = true := hq _ (by decide +kernel)
  obtain ⟨b, xs, hb, hx⟩ := State.ints_of_pre rfl harr hlen hall
  have hsm : xs.length < 2 ^ 31 := hx.choose_spec.2.2.2
  have hev : (Term.length (.arg 0)).eval args s none [] s = some (.int xs.length.toInt32) := hx.length_eval hb
  have hv := Cond.le_ints hev (show (Term.int 260).eval args s none [] s = some (.int 260) from rfl)
  have hd : xs.length.toInt32 ≤ 260 := by
    simpa [Cond.before, Cond.holds, hv] using hle
  have hN : xs.length ≤ 260 := (Int32.ofNat_le_ofNat hsm (by decide)).mp (show Int32.ofNat xs.length ≤ Int32.ofNat 260 from hd)
  exact ⟨b, xs, Cond.one_arg hc (show args[0]? = some (.ref b) from hb), hx, hN, h⟩
/-- THE STATEMENT's OWN WITNESS: at its start, with its script, the law answers 1 and makes 142 new cells at least: both claims fall there -/
theorem p34_refuted : (RefutedClaimed_1_1 ∧ RefutedClaimed_1_2) ∧ ¬ Claimed_1_1 ∧ ¬ Claimed_1_2 := by
  have hs := start1.atStart
  obtain ⟨b, xs, hargs, hx, hlen, -⟩ := lw_pre_spec hs.2.2.2.2.2.2.2.2.2.2.2.2 hs.2.2.2.2.2.2.2.2.2.2.2.1
  have h0 : (#[Value.ref 0] : Array Value) = #[Value.ref b] := hargs
  have hb : b = 0 := by
    have h1 : (#[Value.ref 0] : Array Value)[0]? = (#[Value.ref b] : Array Value)[0]? := by rw [h0]
    have h2 : some (Value.ref 0) = some (Value.ref b) := h1
    exact (Value.ref.inj (Option.some.inj h2)).symm
  subst hb
  have hx0 := hx
  obtain ⟨cell, h1, h2, -, -⟩ := hx0
  have h3 : start1.about.heap[0]? = some cell := (State.arrayAt?_spec h1).1
  have h4 : start1.about.heap[0]? = some { cls := 19, slots := start1.cells0, vm := .none } := rfl
  have h5 := Option.some.inj (h3.symm.trans h4)
  subst h5
  have h6 : start1.cells0.toList = xsW.map Value.int := rfl
  have h7 : xs.map Value.int = xsW.map Value.int := h2.symm.trans h6
  have h8 : xs = xsW := by
    have h9 := congrArg (List.map (fun v : Value => match v with | .int x => x | _ => 0)) h7
    rw [List.map_map, List.map_map] at h9
    have e : ((fun v : Value => match v with | .int x => x | _ => 0) ∘ Value.int) = id := rfl
    rw [e, List.map_id, List.map_id] at h9
    exact h9
  subst h8
  exact p34_falls (l := launch0) rfl hs (launch0.hasRoom_least _ room_R (by decide +kernel) (by decide +kernel) (by decide +kernel) (by decide +kernel) (by decide +kernel) (by decide +kernel)) hargs hx hlen (u := 142) (by decide) evW
/-- and so they do at every start that has the room and the script of passing minutes: 168 -/
theorem p34_passes {l : Launch} {p : Program} {e : Env} {s : State} {m : MethodId} {args : Array Value} {below : List Frame} (hflags : l.flags = flags0) (hs : AtStart classFile x code maxLocals ret World_1 tables_1 room_1 Calls_1 rest_1 Pre_1 l p e s m args below) (hroom : s.hasRoom e.platform room_R = true)
    {b : Addr} (hargs : args = #[.ref b]) (hx : s.IntsAt b xsP) : (RefutedClaimed_1_1 ∧ RefutedClaimed_1_2) ∧ ¬ Claimed_1_1 ∧ ¬ Claimed_1_2 :=
  p34_falls hflags hs hroom hargs hx (by decide) (u := 168) (by decide) evP
/-- so what is owed can't be proved -/
theorem p34_not_owed : ¬ (Claimed_1_1 ∧ Claimed_1_2) := fun h => p34_refuted.2.1 h.1
