/-- a callee's throw is looked up in a table -/
def zca {α β : Type} (a : Option (String ⊕ α)) (h : String → Option β) (k : α → Option β) : Option β := match a with
  | none => none
  | some (.inl E) => h E
  | some (.inr u) => k u
theorem zca_some {α β : Type} {a : Option (String ⊕ α)} {h : String → Option β} {k : α → Option β} {r : β} (q : zca a h k = some r) : (∃ E, a = some (.inl E) ∧ h E = some r) ∨ ∃ u, a = some (.inr u) ∧ k u = some r := by
  cases a with
  | none => cases q
  | some a => cases a with
    | inl E => exact Or.inl ⟨E, rfl, q⟩
    | inr u => exact Or.inr ⟨u, rfl, q⟩
/-- a callee that must return -/
def zok {α β : Type} (a : Option (String ⊕ α)) (k : α → Option β) : Option β := match a with
  | some (.inr u) => k u
  | _ => none
theorem zok_some {α β : Type} {a : Option (String ⊕ α)} {k : α → Option β} {r : β} (q : zok a k = some r) : ∃ u, a = some (.inr u) ∧ k u = some r := by
  cases a with
  | none => cases q
  | some a => cases a with
    | inl E => cases q
    | inr u => exact ⟨u, rfl, q⟩
def zne {α : Type} (y : Int32) (a : Option α) : Option α := if y = 0 then none else a
theorem zne_some {α : Type} {y : Int32} {a : Option α} {r : α} (h : zne y a = some r) : ¬ y = 0 ∧ a = some r := by
  unfold zne at h
  by_cases hc : y = 0
  · rw [if_pos hc] at h; cases h
  · rw [if_neg hc] at h; exact ⟨hc, h⟩
def f_L_cell (xs : Nat → Int32) (sL : Nat) (k : Int32) : Option Int32 := if k < Int32.ofNat sL then zix k sL (some (xs k.toNatClampNeg)) else some ((1000308201 * (k + 1)) + 751363375)
def zP0 : SS := fun _ _ => 0
def zL0 : SL := fun _ => 0
def zT1 : SS := zs (zs (za (za (za (za zP0 0 (zP0 4 0) 0) 1 (zP0 4 0) (-1)) 2 (zP0 4 0) 0) 3 (zP0 4 0) (vp_nar .boolean 1)) 5 ((zP0 5 0) + 1)) 4 ((zP0 4 0) + 1)
def zT2 : SS := za (za (za zT1 6 0 (-1)) 7 0 0) 8 0 (-1)
