/-! pure: what fits, what decides -/
def fitb : Nat → Nat → Nat → Bool
  | 0, _, _ => true
  | f + 1, p, g => if p = 0 then true else if p % 10 = 9 then fitb f (p / 10) (g / 10) else if p % 10 = g % 10 then fitb f (p / 10) (g / 10) else false
theorem ft4 (f : Nat) : ∀ n i p g : Nat, i + f = 6 → f < n → p < 10 ^ f → p < 2 ^ 31 → g < 2 ^ 31 → f_X4_fits_37 n (nI p) (nI g) (nI i) = some (if fitb f p g = true then 1 else 0) := by
  induction f with
  | zero =>
    intro n i p g hi hn hm h2 h3
    obtain ⟨n, rfl⟩ := zn_s hn
    have hi6 : i = 6 := by omega
    subst hi6
    rw [f_X4_fits_37, if_pos (show (6 : Int32) ≤ nI 6 by decide)]
    rfl
  | succ f ih =>
    intro n i p g hi hn hm h2 h3
    obtain ⟨n, rfl⟩ := zn_s hn
    rw [f_X4_fits_37, if_neg (show ¬ (6 : Int32) ≤ nI i from nI_ge (b := 6) (show i < 6 by omega) (by decide)), fitb]
    by_cases h0 : p = 0
    · subst h0
      rw [if_pos (show nI 0 ≤ 0 by decide), if_pos rfl, if_pos rfl]
    · rw [if_neg (nI_nle (by omega) h2), if_neg h0, rm10 h2, rm10 h3, dv10 h2, dv10 h3, nI_1, ih n (i + 1) (p / 10) (g / 10) (by omega) (by omega) (d10 hm) (d31 h2) (d31 h3)]
      by_cases h1 : p % 10 = 9
      · rw [if_pos (show nI (p % 10) = 9 from congrArg nI h1), if_pos h1]
      · rw [if_neg (show ¬ nI (p % 10) = 9 from fun q => h1 ((nI_eq (b := 9) (m10 p) (by decide)).mp q)), if_neg h1]
        by_cases h4 : p % 10 = g % 10
        · rw [if_pos (congrArg nI h4), if_pos h4]
        · rw [if_neg (fun q => h4 ((nI_eq (m10 p) (m10 g)).mp q)), if_neg h4]
          rfl
/-- the digit t places from the end -/
def dgt (m t : Nat) : Nat := m / 10 ^ t % 10
theorem dgt_0 (m : Nat) : dgt m 0 = m % 10 := by
  unfold dgt
  rw [Nat.pow_zero, Nat.div_one]
theorem dgt_s (m t : Nat) : dgt (m / 10) t = dgt m (t + 1) := by
  unfold dgt
  rw [dd10]
theorem dgt_31 (m t : Nat) : dgt m t < 2 ^ 31 := m10 _
theorem fitb_iff (f : Nat) : ∀ p g : Nat, fitb f p g = true ↔ ∀ t, t < ndf f p → dgt p t = 9 ∨ dgt p t = dgt g t := by
  induction f with
  | zero =>
    intro p g
    exact ⟨fun _ t ht => absurd ht (Nat.not_lt_zero t), fun _ => rfl⟩
  | succ f ih =>
    intro p g
    rw [fitb]
    by_cases h0 : p = 0
    · rw [if_pos h0, h0, ndf_0]
      exact ⟨fun _ t ht => absurd ht (Nat.not_lt_zero t), fun _ => rfl⟩
    · rw [if_neg h0, ndf_s h0]
      have hs : (∀ t, t < ndf f (p / 10) → dgt (p / 10) t = 9 ∨ dgt (p / 10) t = dgt (g / 10) t) ↔ ∀ t, t < ndf f (p / 10) → dgt p (t + 1) = 9 ∨ dgt p (t + 1) = dgt g (t + 1) := by
        constructor
        · intro h t ht
          rw [← dgt_s, ← dgt_s]
          exact h t ht
        · intro h t ht
          rw [dgt_s, dgt_s]
          exact h t ht
      have hall : (∀ t, t < ndf f (p / 10) + 1 → dgt p t = 9 ∨ dgt p t = dgt g t) ↔ (p % 10 = 9 ∨ p % 10 = g % 10) ∧ ∀ t, t < ndf f (p / 10) → dgt p (t + 1) = 9 ∨ dgt p (t + 1) = dgt g (t + 1) := by
        constructor
        · intro h
          refine ⟨?_, fun t ht => h (t + 1) (by omega)⟩
          rw [← dgt_0, ← dgt_0]
          exact h 0 (by omega)
        · intro h t ht
          cases t with
          | zero => rw [dgt_0, dgt_0]; exact h.1
          | succ t => exact h.2 t (by omega)
      rw [hall, ← hs, ← ih]
      by_cases h1 : p % 10 = 9
      · rw [if_pos h1]
        exact ⟨fun q => ⟨Or.inl h1, q⟩, fun q => q.2⟩
      · rw [if_neg h1]
        by_cases h4 : p % 10 = g % 10
        · rw [if_pos h4]
          exact ⟨fun q => ⟨Or.inr h4, q⟩, fun q => q.2⟩
        · rw [if_neg h4]
          exact ⟨fun q => absurd q (by decide), fun q => (q.1.elim (fun z => absurd z h1) (fun z => absurd z h4))⟩
/-- the pattern b fits the first folders of the path a -/
def Fit (a b : Nat) : Prop := ndf 6 b ≤ ndf 6 a ∧ ∀ t, t < ndf 6 b → dgt b t = 9 ∨ dgt b t = dgt (a / 10 ^ (ndf 6 a - ndf 6 b)) t
theorem dgt_front {a lb j : Nat} (hl : lb ≤ ndf 6 a) (hj : j < lb) : a / 10 ^ (ndf 6 a - (j + 1)) % 10 = dgt (a / 10 ^ (ndf 6 a - lb)) (lb - (j + 1)) := by
  unfold dgt
  rw [Nat.div_div_eq_div_mul, ← Nat.pow_add, show ndf 6 a - lb + (lb - (j + 1)) = ndf 6 a - (j + 1) by omega]
theorem ftm0 (S : SS) (n : Nat) (v1 v2 v3 v5 : Int32) : f_X8_fits_53 S (n + 1) v1 v2 v3 0 v5 = some 0 := by
  rw [f_X8_fits_53]
  by_cases h : v3 ≤ v5
  · rw [if_pos h]; rfl
  · rw [if_neg h, if_pos rfl]; rfl
theorem ftm1 {S : SS} {s a b : Nat} (hs : s < 48) (h4 : S 4 s = nI b) (ha : a < 1000000) (hb : b < 1000000) (hl : ndf 6 b ≤ ndf 6 a) (k : Nat) : ∀ n j : Nat, j + k = ndf 6 b → k + 1 < n →
    ∃ r, f_X8_fits_53 S n (nI s) (nI a) (nI (ndf 6 b)) 1 (nI j) = some r ∧ (r = 1 ∧ (∀ t, t < k → dgt b t = 9 ∨ dgt b t = dgt (a / 10 ^ (ndf 6 a - ndf 6 b)) t) ∨ r = 0 ∧ ¬ ∀ t, t < k → dgt b t = 9 ∨ dgt b t = dgt (a / 10 ^ (ndf 6 a - ndf 6 b)) t) := by
  have hle := ndf_le 6 b
  induction k with
  | zero =>
    intro n j hj hn
    obtain ⟨n, rfl⟩ := zn_s hn
    rw [f_X8_fits_53, if_pos (nI_le (show ndf 6 b ≤ j by omega) (by omega))]
    exact ⟨1, rfl, Or.inl ⟨rfl, fun t ht => absurd ht (Nat.not_lt_zero t)⟩⟩
  | succ k ih =>
    intro n j hj hn
    obtain ⟨n, rfl⟩ := zn_s hn
    rw [f_X8_fits_53, if_neg (nI_ge (show j < ndf 6 b by omega) (by omega)), if_neg (show ¬ (1 : Int32) = 0 by decide), zix_nI hs (by decide), nI_clamp (show s < 2 ^ 31 by omega), h4, dgt_X8 hb (by omega), zbs, dgt_X8 ha (by omega), zbs, nI_1]
    have e1 : b / 10 ^ (ndf 6 b - (j + 1)) % 10 = dgt b k := by
      unfold dgt
      rw [show ndf 6 b - (j + 1) = k by omega]
    have e2 : a / 10 ^ (ndf 6 a - (j + 1)) % 10 = dgt (a / 10 ^ (ndf 6 a - ndf 6 b)) k := by
      rw [dgt_front hl (show j < ndf 6 b by omega), show ndf 6 b - (j + 1) = k by omega]
    rw [e1, e2]
    obtain ⟨n, rfl⟩ := zn_s (show 0 < n by omega)
    by_cases hc : dgt b k = 9 ∨ dgt b k = dgt (a / 10 ^ (ndf 6 a - ndf 6 b)) k
    · obtain ⟨r, h1, h2⟩ := ih (n + 1) (j + 1) (by omega) (by omega)
      refine ⟨r, ?_, ?_⟩
      · by_cases h9 : dgt b k = 9
        · rw [if_pos (show nI (dgt b k) = 9 from congrArg nI h9)]
          exact h1
        · rw [if_neg (show ¬ nI (dgt b k) = 9 from fun q => h9 ((nI_eq (b := 9) (dgt_31 _ _) (by decide)).mp q)), if_pos (congrArg nI (hc.resolve_left h9))]
          exact h1
      · rcases h2 with ⟨q1, q2⟩ | ⟨q1, q2⟩
        · refine Or.inl ⟨q1, fun t ht => ?_⟩
          by_cases hk : t = k
          · subst hk; exact hc
          · exact q2 t (by omega)
        · exact Or.inr ⟨q1, fun q => q2 (fun t ht => q t (by omega))⟩
    · refine ⟨0, ?_, Or.inr ⟨rfl, fun q => hc (q k (by omega))⟩⟩
      rw [if_neg (show ¬ nI (dgt b k) = 9 from fun q => hc (Or.inl ((nI_eq (b := 9) (dgt_31 _ _) (by decide)).mp q))), if_neg (fun q => hc (Or.inr ((nI_eq (dgt_31 _ _) (dgt_31 _ _)).mp q)))]
      exact ftm0 S n _ _ _ _
theorem ft_ge {a b : Nat} (ha : a < 1000000) (hb : b < 1000000) : f_X4_fits_37 600 (nI b) (nI (a / 10 ^ (ndf 6 a - ndf 6 b))) 0 = some (if fitb 6 b (a / 10 ^ (ndf 6 a - ndf 6 b)) = true then 1 else 0) :=
  ft4 6 600 0 b (a / 10 ^ (ndf 6 a - ndf 6 b)) rfl (by decide) hb (m31 hb) (p31 (m31 ha))
theorem fit_ge {S : SS} {s a b : Nat} (hs : s < 48) (h4 : S 4 s = nI b) (ha : a < 1000000) (hb : b < 1000000) (hl : ndf 6 b ≤ ndf 6 a) :
    ∃ r, f_X4_fits_37 600 (nI b) (nI (a / 10 ^ (ndf 6 a - ndf 6 b))) 0 = some r ∧ f_X8_fits_53 S 600 (nI s) (nI a) (nI (ndf 6 b)) 1 0 = some r ∧ (r = 0 ∨ r = 1 ∧ Fit a b) := by
  have hle := ndf_le 6 b
  obtain ⟨r, h1, h2⟩ := ftm1 hs h4 ha hb hl (ndf 6 b) 600 0 (Nat.zero_add _) (by omega)
  refine ⟨r, ?_, h1, ?_⟩
  · rw [ft_ge ha hb]
    rcases h2 with ⟨q1, q2⟩ | ⟨q1, q2⟩
    · rw [if_pos ((fitb_iff 6 _ _).mpr q2), q1]
    · rw [if_neg (fun q => q2 ((fitb_iff 6 _ _).mp q)), q1]
  · rcases h2 with ⟨q1, q2⟩ | ⟨q1, q2⟩
    · exact Or.inr ⟨q1, hl, q2⟩
    · exact Or.inl q1
theorem fit_eq {S : SS} {s a b : Nat} (hs : s < 48) (h4 : S 4 s = nI b) (ha : a < 1000000) (hb : b < 1000000) :
    ∃ r, f_X4_fits (nI b) (S 5 s) (nI a) = some r ∧ f_X8_fits S (nI s) (nI a) = some r ∧ (r = 0 ∨ r = 1 ∧ Fit a b) := by
  have h1 := ndf_le 6 a
  have h2 := ndf_le 6 b
  unfold f_X4_fits f_X8_fits
  rw [len_X4 ha, zbs, len_X4 hb, zbs, zix_nI hs (by decide), nI_clamp (show s < 2 ^ 31 by omega), h4, dig6 hb, zbs, zix_nI hs (by decide), dig6 ha, zbs, zbs]
  by_cases hl : ndf 6 a < ndf 6 b
  · refine ⟨0, by rw [if_pos (pk_sneg (by omega) hl)], ?_, Or.inl rfl⟩
    by_cases ho : S 5 s = 0
    · rw [if_pos ho, if_neg (nI_ne (by omega) (by omega) (show ndf 6 a ≠ ndf 6 b by omega))]
      exact ftm0 S 599 _ _ _ _
    · rw [if_neg ho, if_pos (nI_lt hl (by omega))]
      exact ftm0 S 599 _ _ _ _
  · have hg : ndf 6 b ≤ ndf 6 a := by omega
    obtain ⟨r, r1, r2, r3⟩ := fit_ge hs h4 ha hb hg
    rw [pk_sub hg, if_neg (nI_pos (by omega)), wl_X4 ha (by omega), zbs]
    by_cases he : ndf 6 a = ndf 6 b
    · refine ⟨r, ?_, ?_, r3⟩
      · rw [if_pos (show nI (ndf 6 a - ndf 6 b) ≤ 0 by rw [show ndf 6 a - ndf 6 b = 0 by omega]; decide)]
        exact r1
      · by_cases ho : S 5 s = 0
        · rw [if_pos ho, if_pos (congrArg nI he)]
          exact r2
        · rw [if_neg ho, if_neg (nI_nlt hg (by omega))]
          exact r2
    · rw [if_neg (show ¬ nI (ndf 6 a - ndf 6 b) ≤ 0 from nI_nle (by omega) (by omega))]
      by_cases ho : S 5 s = 0
      · refine ⟨0, by rw [if_pos ho], ?_, Or.inl rfl⟩
        rw [if_pos ho, if_neg (nI_ne (by omega) (by omega) he)]
        exact ftm0 S 599 _ _ _ _
      · refine ⟨r, by rw [if_neg ho]; exact r1, ?_, r3⟩
        rw [if_neg ho, if_neg (nI_nlt hg (by omega))]
        exact r2
theorem ga75 {S : SS} {x y a b c d : Nat} (hx : x < 48) (hy : y < 48) (h4 : S 4 x = nI b) (h4' : S 4 y = nI c) (hb : b < 1000000) (hc : c < 1000000) (hd : ndf 6 b = d) (hd' : ndf 6 c = d) (F : Fit a b) (F' : Fit a c) (k : Nat) : ∀ n j : Nat, j + k = d → k < n → b / 10 ^ k = c / 10 ^ k →
    f_X8_goesAhead_75 S n (nI x) (nI y) (nI d) (nI j) = some (if b < c then 1 else 0) := by
  have hle := ndf_le 6 b
  induction k with
  | zero =>
    intro n j hj hn h
    obtain ⟨n, rfl⟩ := zn_s hn
    rw [Nat.pow_zero, Nat.div_one, Nat.div_one] at h
    rw [f_X8_goesAhead_75, if_pos (nI_le (show d ≤ j by omega) (by omega)), if_neg (show ¬ b < c by omega)]
  | succ k ih =>
    intro n j hj hn h
    obtain ⟨n, rfl⟩ := zn_s hn
    rw [f_X8_goesAhead_75, if_neg (nI_ge (show j < d by omega) (by omega)), zix_nI hx (by decide), nI_clamp (show x < 2 ^ 31 by omega), h4, dgt_X8 hb (by omega), zbs, zix_nI hy (by decide), nI_clamp (show y < 2 ^ 31 by omega), h4', dgt_X8 hc (by omega), zbs, zix_nI hy (by decide), zbs, nI_1]
    rw [hd, hd', show d - (j + 1) = k by omega]
    rw [← d1k, ← d1k] at h
    have f1 := F.2 k (by omega)
    have f2 := F'.2 k (by omega)
    rw [hd] at f1
    rw [hd'] at f2
    have e1 : b / 10 ^ k % 10 = dgt b k := rfl
    have e2 : c / 10 ^ k % 10 = dgt c k := rfl
    have l1 : dgt b k < 10 := Nat.mod_lt _ (by decide)
    have l2 : dgt c k < 10 := Nat.mod_lt _ (by decide)
    have m1 : b < c → b / 10 ^ k ≤ c / 10 ^ k := fun q => Nat.div_le_div_right (Nat.le_of_lt q)
    have m2 : c ≤ b → c / 10 ^ k ≤ b / 10 ^ k := fun q => Nat.div_le_div_right q
    rw [e1, e2]
    by_cases h1 : dgt b k = 9
    · rw [if_pos (show nI (dgt b k) = 9 from congrArg nI h1)]
      by_cases h2 : dgt c k = 9
      · rw [if_pos (show nI (dgt c k) = 9 from congrArg nI h2)]
        exact ih n (j + 1) (by omega) (by omega) (by omega)
      · rw [if_neg (show ¬ nI (dgt c k) = 9 from fun q => h2 ((nI_eq (b := 9) (dgt_31 _ _) (by decide)).mp q)), if_neg (show ¬ b < c from fun q => by have := m1 q; omega)]
    · rw [if_neg (show ¬ nI (dgt b k) = 9 from fun q => h1 ((nI_eq (b := 9) (dgt_31 _ _) (by decide)).mp q))]
      by_cases h2 : dgt c k = 9
      · rw [if_pos (show nI (dgt c k) = 9 from congrArg nI h2), if_pos (show b < c from Nat.lt_of_not_le (fun q => by have := m2 q; omega))]
      · rw [if_neg (show ¬ nI (dgt c k) = 9 from fun q => h2 ((nI_eq (b := 9) (dgt_31 _ _) (by decide)).mp q))]
        have g1 := f1.resolve_left h1
        have g2 := f2.resolve_left h2
        exact ih n (j + 1) (by omega) (by omega) (by omega)
theorem ga_eq {P S : SS} {x y a b c : Nat} (q1 : P 1 = S 4) (q2 : P 2 = S 5) (hx : x < 48) (hy : y < 48) (h4 : S 4 x = nI b) (h4' : S 4 y = nI c) (ho : S 5 x = 0 ∨ S 5 x = 1) (ho' : S 5 y = 0 ∨ S 5 y = 1) (hb : b < 1000000) (hc : c < 1000000) (F : Fit a b) (F' : Fit a c) :
    ∃ r, f_X5_goesAhead P (nI x) (nI y) = some r ∧ f_X8_goesAhead S (nI x) (nI y) = some r := by
  have h1 := ndf_le 6 b
  have h2 := ndf_le 6 c
  have z1 : ∀ {α : Type} (o : Option α), zix (nI x) 48 o = o := fun o => zix_nI hx (by decide) o
  have z2 : ∀ {α : Type} (o : Option α), zix (nI y) 48 o = o := fun o => zix_nI hy (by decide) o
  unfold f_X5_goesAhead f_X8_goesAhead
  rw [q1, q2]
  simp only [z1, z2, nI_clamp (show x < 2 ^ 31 by omega), nI_clamp (show y < 2 ^ 31 by omega), h4, h4', len_X4 hb, len_X4 hc, dig6 hb, dig6 hc, zbs]
  by_cases hl : ndf 6 b = ndf 6 c
  · rw [if_pos (show nI (ndf 6 b) - nI (ndf 6 c) = 0 by rw [pk_sub (by omega), show ndf 6 b - ndf 6 c = 0 by omega]; rfl), if_pos (congrArg nI hl)]
    by_cases hoo : S 5 x = S 5 y
    · rw [if_pos hoo, if_pos hoo]
      refine ⟨if b < c then 1 else 0, ?_, ?_⟩
      · by_cases hbc : b < c
        · rw [if_neg (nI_ge hbc (m31 hc)), if_pos hbc]
        · rw [if_pos (nI_le (show c ≤ b by omega) (m31 hb)), if_neg hbc]
      · rw [hl]
        exact ga75 (a := a) hx hy h4 h4' hb hc hl rfl F F' (ndf 6 c) 600 0 (Nat.zero_add _) (by omega) (by
          have e1 : b < 10 ^ ndf 6 c := by rw [← hl]; exact ndf_up hb
          have e2 : c < 10 ^ ndf 6 c := ndf_up hc
          rw [Nat.div_eq_of_lt e1, Nat.div_eq_of_lt e2])
    · rw [if_neg hoo, if_neg hoo, zbo_b ho']
      refine ⟨S 5 y, rfl, ?_⟩
      rcases ho with ho | ho
      · rw [if_pos ho]
        rcases ho' with ho' | ho'
        · exact absurd (ho.trans ho'.symm) hoo
        · rw [ho']
      · rw [if_neg (show ¬ S 5 x = 0 by rw [ho]; decide)]
        rcases ho' with ho' | ho'
        · rw [ho']
        · exact absurd (ho.trans ho'.symm) hoo
  · rw [if_neg (nI_ne (by omega) (by omega) hl)]
    by_cases hlt : ndf 6 b < ndf 6 c
    · have hn := pk_sneg (a := ndf 6 b) (b := ndf 6 c) (by omega) hlt
      refine ⟨0, ?_, ?_⟩
      · rw [if_neg (show ¬ nI (ndf 6 b) - nI (ndf 6 c) = 0 from fun q => by rw [q] at hn; exact absurd hn (by decide)), if_pos (i32_le0 hn)]
      · rw [if_pos (nI_le (Nat.le_of_lt hlt) (by omega))]
    · refine ⟨1, ?_, ?_⟩
      · rw [pk_sub (by omega), if_neg (nI_ne0 (by omega) (by omega)), if_neg (nI_nle (by omega) (by omega))]
      · rw [if_neg (nI_ge (show ndf 6 c < ndf 6 b by omega) (by omega))]
