/-! pure: policies -/
theorem nI_6m (p : Nat) : (6 : Int32) * nI p = nI (6 * p) := pk_mul 6 p
theorem nI_m6 (p : Nat) : nI p * (6 : Int32) = nI (6 * p) := by
  rw [show nI p * (6 : Int32) = nI (p * 6) from pk_mul p 6, Nat.mul_comm]
/-- the rules from lo to hi are well formed -/
def rls (S : SS) (lo hi : Nat) : Prop := ∀ s : Nat, lo ≤ s → s < hi → ∃ b : Nat, b < 1000000 ∧ S 4 s = nI b ∧ (S 5 s = 0 ∨ S 5 s = 1)
theorem dc_lp {P S : SS} {p r a : Nat} (q1 : P 1 = S 4) (q2 : P 2 = S 5) (q3 : P 3 = S 6) (hp : p < 8) (hr : r ≤ 6) (h3 : S 3 p = nI r) (ha : a < 1000000) (hR : rls S (6 * p) (6 * p + r)) (k : Nat) :
    ∀ (n i : Nat) (v : Int32), i + k = 6 * p + r → k < n → 6 * p ≤ i → (v = -1 ∨ ∃ s b : Nat, s < 48 ∧ v = nI s ∧ b < 1000000 ∧ S 4 s = nI b ∧ (S 5 s = 0 ∨ S 5 s = 1) ∧ Fit a b) →
    ∃ w, f_X5_decided_20 P n (nI a) (nI (6 * p + r)) v (nI i) = some w ∧ f_X8_decided_8 S n (nI p) (nI a) v (nI i) = some w := by
  have zp : ∀ {α : Type} (o : Option α), zix (nI p) 8 o = o := fun o => zix_nI hp (by decide) o
  have cp : (nI p).toNatClampNeg = p := nI_clamp (by omega)
  induction k with
  | zero =>
    intro n i v hi hn hlo hv
    obtain ⟨n, rfl⟩ := zn_s hn
    rw [f_X5_decided_20, f_X8_decided_8, zp, cp, h3, nI_6m, nI_add, if_pos (nI_le (show 6 * p + r ≤ i by omega) (by omega)), if_pos (nI_le (show 6 * p + r ≤ i by omega) (by omega)), q3]
    rcases hv with hv | ⟨s, b, hs, hv, _⟩
    · exact ⟨0, by rw [if_pos hv], by rw [if_pos hv]⟩
    · have hne : ¬ v = -1 := by rw [hv]; exact nI_nm1 s (by omega)
      exact ⟨S 6 v.toNatClampNeg, by rw [if_neg hne, hv, zix_nI hs (by decide)], by rw [if_neg hne, hv, zix_nI hs (by decide)]⟩
  | succ k ih =>
    intro n i v hi hn hlo hv
    obtain ⟨n, rfl⟩ := zn_s hn
    obtain ⟨b, hb, hb4, hb5⟩ := hR i hlo (by omega)
    have hi48 : i < 48 := by omega
    have zi : ∀ {α : Type} (o : Option α), zix (nI i) 48 o = o := fun o => zix_nI hi48 (by decide) o
    obtain ⟨f, f1, f2, f3⟩ := fit_eq hi48 hb4 ha hb
    rw [f_X5_decided_20, f_X8_decided_8, zp, cp, h3, nI_6m, nI_add, if_neg (nI_ge (show i < 6 * p + r by omega) (by omega)), if_neg (nI_ge (show i < 6 * p + r by omega) (by omega)), zi, zi, q1, q2, nI_clamp (show i < 2 ^ 31 by omega), hb4, f1, zbs, f2, zbs, nI_1]
    rcases f3 with f3 | ⟨f3, F⟩
    · obtain ⟨w, w1, w2⟩ := ih n (i + 1) v (by omega) (by omega) (by omega) hv
      exact ⟨w, by rw [if_pos f3]; exact w1, by rw [if_pos f3]; exact w2⟩
    · have hf0 : ¬ f = 0 := by rw [f3]; decide
      obtain ⟨w, w1, w2⟩ := ih n (i + 1) (nI i) (by omega) (by omega) (by omega) (Or.inr ⟨i, b, hi48, rfl, hb, hb4, hb5, F⟩)
      rcases hv with hv | ⟨s, b', hs, hv, hb', hs4, hs5, F'⟩
      · exact ⟨w, by rw [if_neg hf0, if_pos hv]; exact w1, by rw [if_neg hf0, if_pos hv]; exact w2⟩
      · have hne : ¬ v = -1 := by rw [hv]; exact nI_nm1 s (by omega)
        obtain ⟨g, g1, g2⟩ := ga_eq q1 q2 hi48 hs hb4 hs4 hb5 hs5 hb hb' F F'
        obtain ⟨w', w1', w2'⟩ := ih n (i + 1) v (by omega) (by omega) (by omega) (Or.inr ⟨s, b', hs, hv, hb', hs4, hs5, F'⟩)
        rw [if_neg hf0, if_neg hne, if_neg hf0, if_neg hne]
        rw [hv, g1, zbs, g2, zbs]
        by_cases hg : g = 0
        · exact ⟨w', by rw [if_pos hg, ← hv]; exact w1', by rw [if_pos hg, ← hv]; exact w2'⟩
        · exact ⟨w, by rw [if_neg hg]; exact w1, by rw [if_neg hg]; exact w2⟩
/-- an index that there is, or not -/
theorem has_X5 {P S : SS} {np : Nat} (h : P 4 0 = nI np) (h2 : S 2 0 = nI np) (hn : np < 2 ^ 31) (x : Int32) : (f_X5_has P x = some 0 ∧ f_X8_isPolicy S x = some 0) ∨ ∃ p : Nat, p < np ∧ x = nI p ∧ f_X5_has P x = some 1 ∧ f_X8_isPolicy S x = some 1 := by
  unfold f_X5_has f_X8_isPolicy
  rw [h, h2]
  rcases pk_ix x hn with q | q | ⟨j, hj, q⟩
  · exact Or.inl ⟨if_pos q, if_pos q⟩
  · by_cases q0 : x < 0
    · exact Or.inl ⟨if_pos q0, if_pos q0⟩
    · exact Or.inl ⟨by rw [if_neg q0, if_pos q], by rw [if_neg q0, if_pos q]⟩
  · refine Or.inr ⟨j, hj, q, ?_, ?_⟩
    · rw [q, if_neg (nI_pos (by omega)), if_neg (nI_ge hj hn)]
    · rw [q, if_neg (nI_pos (by omega)), if_neg (nI_ge hj hn)]
theorem has_X5' {P : SS} {np p : Nat} (h : P 4 0 = nI np) (hn : np < 2 ^ 31) (hp : p < np) : f_X5_has P (nI p) = some 1 := by
  unfold f_X5_has
  rw [h, if_neg (nI_pos (by omega)), if_neg (nI_ge hp hn)]
theorem rul_X5 {P : SS} {np p : Nat} (h : P 4 0 = nI np) (hn : np ≤ 8) (hp : p < np) : f_X5_rulesOf P (nI p) = some (P 0 p) := by
  unfold f_X5_rulesOf
  rw [has_X5' h (by omega) hp, zbs, if_neg (show ¬ (1 : Int32) = 0 by decide), zix_nI (show p < 8 by omega) (by decide), nI_clamp (show p < 2 ^ 31 by omega)]
theorem IPol.rls {S : SS} {np : Nat} (h : ∀ p : Nat, p < 8 → ∃ r : Nat, r ≤ 6 ∧ S 3 p = nI r ∧ ∀ j : Nat, j < r → isP (S 4 (6 * p + j)) ∧ (S 5 (6 * p + j) = 0 ∨ S 5 (6 * p + j) = 1)) {p : Nat} (hp : p < 8) : ∃ r : Nat, r ≤ 6 ∧ S 3 p = nI r ∧ rls S (6 * p) (6 * p + r) := by
  obtain ⟨r, h1, h2, h3⟩ := h p hp
  refine ⟨r, h1, h2, fun s hs hs' => ?_⟩
  obtain ⟨⟨b, hb, hb4⟩, h5⟩ := h3 (s - 6 * p) (by omega)
  rw [show 6 * p + (s - 6 * p) = s by omega] at hb4 h5
  exact ⟨b, hb, hb4, h5⟩
theorem dc_eq {P S : SS} {np p a : Nat} (R : RPol P S) (h2 : S 2 0 = nI np) (hn : np ≤ 8) (I : ∀ p : Nat, p < 8 → ∃ r : Nat, r ≤ 6 ∧ S 3 p = nI r ∧ ∀ j : Nat, j < r → isP (S 4 (6 * p + j)) ∧ (S 5 (6 * p + j) = 0 ∨ S 5 (6 * p + j) = 1)) (hp : p < np) (ha : a < 1000000) :
    ∃ w, f_X5_decided P (nI p) (nI a) = some w ∧ f_X8_decided S (nI p) (nI a) = some w := by
  obtain ⟨r0, r1, r2, r3, r4⟩ := R
  obtain ⟨r, hr, h3, hR⟩ := IPol.rls (np := np) I (show p < 8 by omega)
  have h4 : P 4 0 = nI np := r0.trans h2
  unfold f_X5_decided f_X8_decided
  rw [rul_X5 h4 hn hp, zbs, r1, h3, nI_m6, nI_6m, nI_add]
  exact dc_lp r2 r3 r4 (by omega) hr h3 ha hR r 600 (6 * p) (-1) rfl (by omega) (Nat.le_refl _) (Or.inl rfl)
theorem bit01 (y : Int32) : y &&& 1 = 0 ∨ y &&& 1 = 1 := by
  obtain ⟨j, hj, q⟩ := pk_andE y (m := 1) 1 (by decide)
  rw [q]
  rcases (show j = 0 ∨ j = 1 by omega) with h | h
  · subst h; exact Or.inl rfl
  · subst h; exact Or.inr rfl
theorem tg_lp {P S : SS} {np a t : Nat} {pol : Int32} (R : RPol P S) (h2 : S 2 0 = nI np) (hn : np ≤ 8) (I : ∀ p : Nat, p < 8 → ∃ r : Nat, r ≤ 6 ∧ S 3 p = nI r ∧ ∀ j : Nat, j < r → isP (S 4 (6 * p + j)) ∧ (S 5 (6 * p + j) = 0 ∨ S 5 (6 * p + j) = 1)) (ht : t < 520) (hpol : S 14 t = pol) (ha : a < 1000000) (k : Nat) :
    ∀ (n i : Nat) (v : Int32), i + k = np → k < n → ∃ w, f_X5_together_5 P n pol (nI a) v (nI i) = some w ∧ f_X8_can_14 S n (nI t) (nI a) v (nI i) = some (if w &&& 8 = 0 then w else 0) := by
  have h4 : P 4 0 = nI np := R.1.trans h2
  have zt : ∀ {α : Type} (o : Option α), zix (nI t) 520 o = o := fun o => zix_nI ht (by decide) o
  induction k with
  | zero =>
    intro n i v hi hn'
    obtain ⟨n, rfl⟩ := zn_s hn'
    rw [f_X5_together_5, f_X8_can_14, h4, h2, if_pos (nI_le (show np ≤ i by omega) (by omega)), if_pos (nI_le (show np ≤ i by omega) (by omega))]
    refine ⟨v, rfl, ?_⟩
    by_cases h8 : v &&& 8 = 0
    · rw [if_pos h8, if_pos h8]
    · rw [if_neg h8, if_neg h8]
  | succ k ih =>
    intro n i v hi hn'
    obtain ⟨n, rfl⟩ := zn_s hn'
    rw [f_X5_together_5, f_X8_can_14, h4, h2, if_neg (nI_ge (show i < np by omega) (by omega)), if_neg (nI_ge (show i < np by omega) (by omega)), zt, nI_clamp (show t < 2 ^ 31 by omega), hpol, nI_1]
    rcases bit01 (pol >>> (nI i &&& 31)) with hb | hb
    · rw [hb, if_pos rfl, if_neg (show ¬ (0 : Int32) = 1 by decide), Int32.or_zero]
      exact ih n (i + 1) v (by omega) (by omega)
    · obtain ⟨w, w1, w2⟩ := dc_eq R h2 hn I (show i < np by omega) ha
      rw [hb, if_neg (show ¬ (1 : Int32) = 0 by decide), if_pos rfl, w1, zbs, w2, zbs]
      exact ih n (i + 1) (v ||| w) (by omega) (by omega)
theorem tg_root {S : SS} {np a : Nat} (h2 : S 2 0 = nI np) (hn : np ≤ 8) (h14 : S 14 0 = 0) (k : Nat) : ∀ (n i : Nat), i + k = np → k < n → f_X8_can_14 S n (nI 0) (nI a) 7 (nI i) = some 7 := by
  induction k with
  | zero =>
    intro n i hi hn'
    obtain ⟨n, rfl⟩ := zn_s hn'
    rw [f_X8_can_14, h2, if_pos (nI_le (show np ≤ i by omega) (by omega)), if_pos (show (7 : Int32) &&& 8 = 0 by decide)]
  | succ k ih =>
    intro n i hi hn'
    obtain ⟨n, rfl⟩ := zn_s hn'
    rw [f_X8_can_14, h2, if_neg (nI_ge (show i < np by omega) (by omega)), zix_nI (show 0 < 520 by decide) (by decide), nI_clamp (show 0 < 2 ^ 31 by decide), h14, Int32.zero_shiftRight, Int32.zero_and, if_neg (show ¬ (0 : Int32) = 1 by decide), Int32.or_zero, nI_1]
    exact ih n (i + 1) (by omega) (by omega)
/-- a policy's rules alone have changed -/
theorem Inv.pol {c : Nat} {B P M T K U : SS} {L : SL} {S : SS} {V : SL} (h : Inv c B P M T K U L S V) {P' S' : SS} (R : RPol P' S') (I : IPol S') (q1 : S' 1 = S 1) (q : eqr 7 30 S S') : Inv (c + 1) B P' M T K U L S' V := by
  obtain ⟨⟨h1, h2, h3, h4, h5, h6, h7⟩, i1, i2, i3, i4, i5, i6⟩ := h
  exact ⟨⟨by rw [q1]; exact h1, h2, R, h4.of (eqr_sub q (by omega) (by omega)), h5.of (eqr_sub q (by omega) (by omega)), h6.of (eqr_sub q (by omega) (by omega)), h7.of (eqr_sub q (by omega) (by omega))⟩,
    i1.of q1 (by omega), I, i3.of (eqr_sub q (by omega) (by omega)), i4.of q1 (eqr_sub q (by omega) (by omega)) (by omega), i5.of q1 (eqr_sub q (by omega) (by omega)) (by omega), i6.of (q 26 (by omega) (by omega)) (by omega)⟩
theorem le0_0 : (0 : Int32) ≤ 0 := by decide
theorem st_policy {c : Nat} {B P M T K U : SS} {L : SL} {S : SS} {V : SL} (H : Inv c B P M T K U L S V) :
    (∃ q S', f_X7_policy P = some (.inl "java/lang/IllegalStateException") ∧ f_X8_policy S = some (q, S') ∧ S' 0 0 = 1 ∧ Inv (c + 1) B P M T K U L S' V) ∨
    (∃ q P' S', f_X7_policy P = some (.inr (q, P')) ∧ f_X8_policy S = some (q, S') ∧ S' 0 0 = 0 ∧ Inv (c + 1) B P' M T K U L S' V) := by
  have H0 := H
  obtain ⟨⟨_, _, R, _⟩, _, ⟨np, hn, h2, I⟩, _⟩ := H0
  have h4 : P 4 0 = nI np := R.1.trans h2
  unfold f_X7_policy f_X8_policy f_X5_count
  rw [zbs, h4, h2]
  by_cases h8 : np = 8
  · subst h8
    left
    rw [if_neg (show ¬ nI 8 < 8 by decide), if_pos (show nI 8 = 8 from rfl)]
    unfold f_X8_policy_15
    rw [zs_in, if_neg (show ¬ (1 : Int32) ≤ 0 by decide)]
    refine ⟨_, _, rfl, rfl, rfl, H.pol ?_ ?_ rfl (eqr_zs (by omega) (eqr_zs (by omega) eqr_rf))⟩
    · exact ⟨(Int32.add_zero (S 2 0)).symm ▸ R.1, R.2.1, R.2.2.1, R.2.2.2.1, R.2.2.2.2⟩
    · exact ⟨8, hn, (Int32.add_zero (S 2 0)).trans h2, I⟩
  · right
    rw [if_pos (show nI np < 8 from nI_lt (b := 8) (by omega) (by decide)), if_neg (show ¬ nI np = 8 from nI_ne (b := 8) (by omega) (by decide) h8)]
    unfold f_X8_policy_15 f_X5_add
    simp only [zs_in, if_pos le0_0, zbs, h4, h2]
    refine ⟨_, _, _, rfl, rfl, rfl, H.pol (P' := zs P 4 (nI np + 1)) ?_ ?_ rfl (eqr_zs (by omega) (eqr_zs (by omega) eqr_rf))⟩
    · exact ⟨rfl, R.2.1, R.2.2.1, R.2.2.2.1, R.2.2.2.2⟩
    · exact ⟨np + 1, by omega, nI_1 np, I⟩
