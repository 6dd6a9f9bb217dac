/-! pure: indices, rows, counts -/
theorem zix_nI {α : Type} {n N : Nat} (h : n < N) (hN : N < 2 ^ 31) (a : Option α) : zix (nI n) N a = a := by
  unfold zix
  rw [if_neg]
  exact nI_in h hN
theorem za_in (T : SS) (k : Nat) (i v : Int32) : za T k i v k = upd (T k) i.toNatClampNeg v := if_pos rfl
theorem za_nI (T : SS) (k : Nat) {n : Nat} (h : n < 2 ^ 31) (v : Int32) : za T k (nI n) v k = upd (T k) n v := by rw [za_in, nI_clamp h]
theorem za_out (T : SS) {k j : Nat} (i v : Int32) (h : j ≠ k) : za T k i v j = T j := if_neg h
theorem zs_in (T : SS) (k : Nat) (v : Int32) : zs T k v k 0 = v := by
  show (if k = k then (fun _ : Nat => v) else T k) 0 = v
  rw [if_pos rfl]
theorem zs_out (T : SS) {k j : Nat} (v : Int32) (h : j ≠ k) : zs T k v j = T j := if_neg h
theorem nI_p0 (a : Nat) : nI a + 0 = nI a := nI_add a 0
theorem nI_m1 {a : Nat} (h : 1 ≤ a) : nI a - 1 = nI (a - 1) := pk_sub h
theorem nI_ne {a b : Nat} (ha : a < 2 ^ 31) (hb : b < 2 ^ 31) (h : a ≠ b) : ¬ nI a = nI b := fun q => h ((nI_eq ha hb).mp q)
theorem nI_leT {a b : Nat} (h : a ≤ b) (hb : b < 2 ^ 31) : nI a ≤ nI b := nI_le h hb
theorem nI_leF {a b : Nat} (h : a < b) (hb : b < 2 ^ 31) : ¬ nI b ≤ nI a := nI_ge h hb
theorem nI_nm1 (a : Nat) (h : a < 2 ^ 31) : ¬ nI a = -1 := by
  intro q
  have h1 := nI_pos (n := a) h
  rw [q] at h1
  exact h1 (by decide)
theorem vn0 : vp_nar .boolean 0 = 0 := by rfl
theorem vn1 : vp_nar .boolean 1 = 1 := by rfl
theorem upd_same {f : Nat → Int32} {t : Nat} {v : Int32} (h : f t = v) : upd f t v = f := by
  funext j
  by_cases hj : j = t
  · subst hj; rw [pk_us, h]
  · rw [pk_un hj]
/-- how many of the first n places hold something else than 0 -/
def cnt (f : Nat → Int32) : Nat → Nat
  | 0 => 0
  | n + 1 => cnt f n + (if f n = 0 then 0 else 1)
theorem cnt_le (f : Nat → Int32) (n : Nat) : cnt f n ≤ n := by
  induction n with
  | zero => exact Nat.le_refl _
  | succ n ih => simp only [cnt]; split <;> omega
theorem cnt_congr {f g : Nat → Int32} {n : Nat} (h : ∀ j, j < n → f j = g j) : cnt f n = cnt g n := by
  induction n with
  | zero => rfl
  | succ n ih => simp only [cnt]; rw [ih (fun j hj => h j (by omega)), h n (by omega)]
theorem cnt_upd0 {f : Nat → Int32} {n t : Nat} (h : t < n) : cnt (upd f t 0) n + (if f t = 0 then 0 else 1) = cnt f n := by
  induction n with
  | zero => omega
  | succ n ih =>
    simp only [cnt]
    by_cases ht : t = n
    · subst ht
      rw [pk_us, if_pos (rfl : (0 : Int32) = 0), cnt_congr (f := upd f t 0) (g := f) (fun j hj => pk_un (by omega))]
      omega
    · have h1 := ih (by omega)
      rw [pk_un (f := f) (k := t) (j := n) (x := 0) (fun q => ht q.symm)]
      omega
theorem cnt_new (f : Nat → Int32) (n : Nat) : cnt (upd f n 1) (n + 1) = cnt f n + 1 := by
  simp only [cnt]
  rw [pk_us, if_neg (by decide), cnt_congr (f := upd f n 1) (g := f) (fun j hj => pk_un (by omega))]
/-- rows a to b are the same -/
def eqr (a b : Nat) (S S' : SS) : Prop := ∀ j, a ≤ j → j ≤ b → S' j = S j
theorem eqr_rf {a b : Nat} {S : SS} : eqr a b S S := fun _ _ _ => rfl
theorem eqr_tr {a b : Nat} {S S1 S2 : SS} (h1 : eqr a b S S1) (h2 : eqr a b S1 S2) : eqr a b S S2 := fun j x y => (h2 j x y).trans (h1 j x y)
theorem eqr_zs {a b k : Nat} {S S1 : SS} {v : Int32} (h : k < a ∨ b < k) (q : eqr a b S S1) : eqr a b S (zs S1 k v) := fun j x y => (zs_out S1 v (by omega)).trans (q j x y)
theorem eqr_za {a b k : Nat} {S S1 : SS} {i v : Int32} (h : k < a ∨ b < k) (q : eqr a b S S1) : eqr a b S (za S1 k i v) := fun j x y => (za_out S1 i v (by omega)).trans (q j x y)
theorem eqr_at {a b : Nat} {S S' : SS} (h : eqr a b S S') (j : Nat) (h1 : a ≤ j) (h2 : j ≤ b) : S' j = S j := h j h1 h2
theorem eqr_sub {a b c d : Nat} {S S' : SS} (h : eqr a b S S') (h1 : a ≤ c) (h2 : d ≤ b) : eqr c d S S' := fun j x y => h j (by omega) (by omega)
/-! the class's pictures beside the reference's -/
def RPol (P S : SS) : Prop := P 4 0 = S 2 0 ∧ P 0 = S 3 ∧ P 1 = S 4 ∧ P 2 = S 5 ∧ P 3 = S 6
def RMnt (M S : SS) : Prop := M 3 0 = S 7 0 ∧ M 0 = S 8 ∧ M 1 = S 9 ∧ M 2 = S 10
def RTok (T S : SS) : Prop := T 4 0 = S 11 0 ∧ T 3 = S 12 ∧ T 6 = S 13 ∧ T 7 = S 14 ∧ T 0 = S 15 ∧ T 1 = S 16 ∧ T 2 = S 17 ∧ T 8 = S 18
def RCre (K S : SS) : Prop := K 4 0 = S 19 0 ∧ K 3 = S 20 ∧ K 6 = S 21 ∧ K 7 = S 22 ∧ K 0 = S 23 ∧ K 1 = S 24 ∧ K 2 = S 25
def RAud (U S : SS) : Prop := U 4 0 = S 26 0 ∧ U 0 = S 27 ∧ U 1 = S 28 ∧ U 2 = S 29
def isP (x : Int32) : Prop := ∃ n : Nat, n < 1000000 ∧ x = nI n
def ITim (c : Nat) (S : SS) : Prop := ∃ τ : Nat, τ ≤ 1000 * c ∧ S 1 0 = nI τ
def IPol (S : SS) : Prop := ∃ np : Nat, np ≤ 8 ∧ S 2 0 = nI np ∧ ∀ p : Nat, p < 8 → ∃ r : Nat, r ≤ 6 ∧ S 3 p = nI r ∧ ∀ j : Nat, j < r → isP (S 4 (6 * p + j)) ∧ (S 5 (6 * p + j) = 0 ∨ S 5 (6 * p + j) = 1)
def IMnt (S : SS) : Prop := ∃ nm : Nat, nm ≤ 6 ∧ S 7 0 = nI nm ∧ ∀ j : Nat, j < nm → isP (S 8 j) ∧ ∃ k : Nat, 1 ≤ k ∧ k ≤ 1000 ∧ S 9 j = nI k
def ITok (c : Nat) (T S : SS) : Prop := ∃ m : Nat, 1 ≤ m ∧ m ≤ c + 1 ∧ S 11 0 = nI m ∧ S 12 0 ≠ 0 ∧ S 13 0 = -1 ∧ S 14 0 = 0 ∧ S 16 0 = -1 ∧ T 5 0 = nI (cnt (S 12) m) ∧ cnt (S 12) m ≤ 30 ∧
  ∀ t : Nat, 1 ≤ t → t < m → (S 13 t = -1 ∨ ∃ p : Nat, p < t ∧ S 13 t = nI p) ∧ (S 12 t ≠ 0 → S 1 0 < S 16 t ∧ (S 13 t = -1 ∨ S 12 (S 13 t).toNatClampNeg ≠ 0))
def ICre (c : Nat) (K S : SS) : Prop := ∃ g m : Nat, g ≤ c ∧ S 19 0 = nI g ∧ m ≤ c + 1 ∧ S 11 0 = nI m ∧ K 5 0 = nI (cnt (S 20) g) ∧ cnt (S 20) g ≤ 40 ∧
  ∀ j : Nat, j < g → (∃ p : Nat, p < m ∧ S 21 j = nI p) ∧ isP (S 22 j) ∧ (S 20 j ≠ 0 → S 1 0 < S 24 j ∧ S 12 (S 21 j).toNatClampNeg ≠ 0)
def IAud (c : Nat) (S : SS) : Prop := ∃ e : Nat, e ≤ c ∧ S 26 0 = nI e
/-- after c calls the class's pictures and the reference's say the same -/
def Inv (c : Nat) (B P M T K U : SS) (L : SL) (S : SS) (V : SL) : Prop :=
  (B 5 0 = S 1 0 ∧ L = V ∧ RPol P S ∧ RMnt M S ∧ RTok T S ∧ RCre K S ∧ RAud U S) ∧ ITim c S ∧ IPol S ∧ IMnt S ∧ ITok c T S ∧ ICre c K S ∧ IAud c S
theorem RPol.of {P S S' : SS} (h : RPol P S) (q : eqr 2 6 S S') : RPol P S' := by
  obtain ⟨h1, h2, h3, h4, h5⟩ := h
  exact ⟨by rw [q 2 (by omega) (by omega)]; exact h1, by rw [q 3 (by omega) (by omega)]; exact h2, by rw [q 4 (by omega) (by omega)]; exact h3, by rw [q 5 (by omega) (by omega)]; exact h4, by rw [q 6 (by omega) (by omega)]; exact h5⟩
theorem RMnt.of {M S S' : SS} (h : RMnt M S) (q : eqr 7 10 S S') : RMnt M S' := by
  obtain ⟨h1, h2, h3, h4⟩ := h
  exact ⟨by rw [q 7 (by omega) (by omega)]; exact h1, by rw [q 8 (by omega) (by omega)]; exact h2, by rw [q 9 (by omega) (by omega)]; exact h3, by rw [q 10 (by omega) (by omega)]; exact h4⟩
theorem RTok.of {T S S' : SS} (h : RTok T S) (q : eqr 11 18 S S') : RTok T S' := by
  obtain ⟨h1, h2, h3, h4, h5, h6, h7, h8⟩ := h
  exact ⟨by rw [q 11 (by omega) (by omega)]; exact h1, by rw [q 12 (by omega) (by omega)]; exact h2, by rw [q 13 (by omega) (by omega)]; exact h3, by rw [q 14 (by omega) (by omega)]; exact h4, by rw [q 15 (by omega) (by omega)]; exact h5, by rw [q 16 (by omega) (by omega)]; exact h6, by rw [q 17 (by omega) (by omega)]; exact h7, by rw [q 18 (by omega) (by omega)]; exact h8⟩
theorem RCre.of {K S S' : SS} (h : RCre K S) (q : eqr 19 25 S S') : RCre K S' := by
  obtain ⟨h1, h2, h3, h4, h5, h6, h7⟩ := h
  exact ⟨by rw [q 19 (by omega) (by omega)]; exact h1, by rw [q 20 (by omega) (by omega)]; exact h2, by rw [q 21 (by omega) (by omega)]; exact h3, by rw [q 22 (by omega) (by omega)]; exact h4, by rw [q 23 (by omega) (by omega)]; exact h5, by rw [q 24 (by omega) (by omega)]; exact h6, by rw [q 25 (by omega) (by omega)]; exact h7⟩
theorem RAud.of {U S S' : SS} (h : RAud U S) (q : eqr 26 29 S S') : RAud U S' := by
  obtain ⟨h1, h2, h3, h4⟩ := h
  exact ⟨by rw [q 26 (by omega) (by omega)]; exact h1, by rw [q 27 (by omega) (by omega)]; exact h2, by rw [q 28 (by omega) (by omega)]; exact h3, by rw [q 29 (by omega) (by omega)]; exact h4⟩
theorem ITim.of {c c' : Nat} {S S' : SS} (h : ITim c S) (q : S' 1 = S 1) (hc : c ≤ c') : ITim c' S' := by
  obtain ⟨τ, h1, h2⟩ := h
  exact ⟨τ, by omega, by rw [q]; exact h2⟩
theorem IPol.of {S S' : SS} (h : IPol S) (q : eqr 2 6 S S') : IPol S' := by
  unfold IPol at h ⊢
  rw [q 2 (by omega) (by omega), q 3 (by omega) (by omega), q 4 (by omega) (by omega), q 5 (by omega) (by omega)]
  exact h
theorem IMnt.of {S S' : SS} (h : IMnt S) (q : eqr 7 10 S S') : IMnt S' := by
  unfold IMnt at h ⊢
  rw [q 7 (by omega) (by omega), q 8 (by omega) (by omega), q 9 (by omega) (by omega)]
  exact h
theorem ITok.of {c c' : Nat} {T S S' : SS} (h : ITok c T S) (q1 : S' 1 = S 1) (q : eqr 11 18 S S') (hc : c ≤ c') : ITok c' T S' := by
  obtain ⟨m, h1, h2, h3⟩ := h
  refine ⟨m, h1, by omega, ?_⟩
  rw [q1, q 11 (by omega) (by omega), q 12 (by omega) (by omega), q 13 (by omega) (by omega), q 14 (by omega) (by omega), q 16 (by omega) (by omega)]
  exact h3
theorem ICre.of {c c' : Nat} {K S S' : SS} (h : ICre c K S) (q1 : S' 1 = S 1) (q : eqr 11 25 S S') (hc : c ≤ c') : ICre c' K S' := by
  obtain ⟨g, m, h1, h2, h3, h4⟩ := h
  refine ⟨g, m, by omega, ?_, by omega, ?_⟩
  · rw [q 19 (by omega) (by omega)]; exact h2
  · rw [q1, q 11 (by omega) (by omega), q 12 (by omega) (by omega), q 20 (by omega) (by omega), q 21 (by omega) (by omega), q 22 (by omega) (by omega), q 24 (by omega) (by omega)]
    exact h4
theorem IAud.of {c c' : Nat} {S S' : SS} (h : IAud c S) (q : S' 26 = S 26) (hc : c ≤ c') : IAud c' S' := by
  obtain ⟨e, h1, h2⟩ := h
  exact ⟨e, by omega, by rw [q]; exact h2⟩
/-- nothing changed but what slot 0 (thrown) holds -/
theorem Inv.th {c : Nat} {B P M T K U : SS} {L : SL} {S S' : SS} {V : SL} (h : Inv c B P M T K U L S V) (q : eqr 1 30 S S') : Inv (c + 1) B P M T K U L S' V := by
  obtain ⟨⟨h1, h2, h3, h4, h5, h6, h7⟩, i1, i2, i3, i4, i5, i6⟩ := h
  have q1 := q 1 (by omega) (by omega)
  exact ⟨⟨by rw [q1]; exact h1, h2, h3.of (eqr_sub q (by omega) (by omega)), h4.of (eqr_sub q (by omega) (by omega)), h5.of (eqr_sub q (by omega) (by omega)), h6.of (eqr_sub q (by omega) (by omega)), h7.of (eqr_sub q (by omega) (by omega))⟩,
    i1.of q1 (by omega), i2.of (eqr_sub q (by omega) (by omega)), i3.of (eqr_sub q (by omega) (by omega)), i4.of q1 (eqr_sub q (by omega) (by omega)) (by omega), i5.of q1 (eqr_sub q (by omega) (by omega)) (by omega), i6.of (q 26 (by omega) (by omega)) (by omega)⟩
/-- what a step of the law's loop owes: the class's answer k, with what it wrote, beside the reference's -/
def stp (c : Nat) (k : Int32) (th : Int32) (same : Prop) (B P M T K U : SS) (L : SL) (S : SS) (V : SL) : Prop := th = k ∧ (k = 0 → same) ∧ Inv (c + 1) B P M T K U L S V
