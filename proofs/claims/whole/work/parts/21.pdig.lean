/-! pure: digits -/
theorem zbs {α β : Type} (a : α) (f : α → Option β) : (some a).bind f = f a := rfl
theorem zn_s {n k : Nat} (h : k < n) : ∃ q, n = q + 1 := ⟨n - 1, by omega⟩
theorem dv10 {a : Nat} (h : a < 2 ^ 31) : nI a / 10 = nI (a / 10) := pk_div (d := 10) h (by decide) (by decide)
theorem rm10 {a : Nat} (h : a < 2 ^ 31) : nI a - nI a / 10 * 10 = nI (a % 10) := pk_rem (d := 10) h (by decide) (by decide)
theorem d10 {f m : Nat} (h : m < 10 ^ (f + 1)) : m / 10 < 10 ^ f := by
  rw [Nat.pow_succ'] at h
  exact Nat.div_lt_of_lt_mul h
theorem d31 {m : Nat} (h : m < 2 ^ 31) : m / 10 < 2 ^ 31 := Nat.lt_of_le_of_lt (Nat.div_le_self _ _) h
theorem p31 {m k : Nat} (h : m < 2 ^ 31) : m / 10 ^ k < 2 ^ 31 := Nat.lt_of_le_of_lt (Nat.div_le_self _ _) h
theorem m31 {m : Nat} (h : m < 1000000) : m < 2 ^ 31 := Nat.lt_trans h (by decide)
theorem m10 (m : Nat) : m % 10 < 2 ^ 31 := Nat.lt_trans (Nat.mod_lt _ (by decide)) (by decide)
theorem dd10 (m k : Nat) : m / 10 / 10 ^ k = m / 10 ^ (k + 1) := by rw [Nat.div_div_eq_div_mul, ← Nat.pow_succ']
theorem d1k (m k : Nat) : m / 10 ^ k / 10 = m / 10 ^ (k + 1) := by rw [Nat.div_div_eq_div_mul, ← Nat.pow_succ]
/-- how many digits m has, at most f -/
def ndf : Nat → Nat → Nat
  | 0, _ => 0
  | f + 1, m => if m = 0 then 0 else ndf f (m / 10) + 1
theorem ndf_0 (f : Nat) : ndf f 0 = 0 := by
  cases f with
  | zero => rfl
  | succ f => exact if_pos rfl
theorem ndf_s {f m : Nat} (h : ¬ m = 0) : ndf (f + 1) m = ndf f (m / 10) + 1 := if_neg h
theorem ndf_le (f : Nat) : ∀ m, ndf f m ≤ f := by
  induction f with
  | zero => intro m; exact Nat.le_refl _
  | succ f ih =>
    intro m
    by_cases h : m = 0
    · rw [h, ndf_0]; exact Nat.zero_le _
    · rw [ndf_s h]; exact Nat.succ_le_succ (ih _)
theorem ndf_mono (f : Nat) : ∀ a b, a ≤ b → ndf f a ≤ ndf f b := by
  induction f with
  | zero => intro a b h; exact Nat.le_refl _
  | succ f ih =>
    intro a b h
    by_cases ha : a = 0
    · rw [ha, ndf_0]; exact Nat.zero_le _
    · rw [ndf_s ha, ndf_s (m := b) (by omega)]
      exact Nat.succ_le_succ (ih _ _ (Nat.div_le_div_right h))
theorem ndf_gt (k : Nat) : ∀ f m, 10 ^ k ≤ m → k < f → k < ndf f m := by
  induction k with
  | zero =>
    intro f m h hf
    obtain ⟨f, rfl⟩ := zn_s hf
    have h1 : ¬ m = 0 := fun q => by rw [q] at h; exact absurd h (by decide)
    rw [ndf_s h1]
    omega
  | succ k ih =>
    intro f m h hf
    obtain ⟨f, rfl⟩ := zn_s hf
    have h2 : 10 ^ k ≤ m / 10 := (Nat.le_div_iff_mul_le (by decide)).mpr (by rw [← Nat.pow_succ]; exact h)
    have h3 : 0 < 10 ^ k := Nat.pow_pos (by decide)
    have h1 : ¬ m = 0 := fun q => by rw [q] at h2; omega
    rw [ndf_s h1]
    have := ih f (m / 10) h2 (by omega)
    omega
theorem ndf_up0 (f : Nat) : ∀ m, m < 10 ^ f → m < 10 ^ ndf f m := by
  induction f with
  | zero => intro m h; exact h
  | succ f ih =>
    intro m h
    by_cases h0 : m = 0
    · rw [h0]; exact Nat.pow_pos (by decide)
    · rw [ndf_s h0, Nat.pow_succ]
      have h1 := ih (m / 10) (d10 h)
      omega
theorem ndf_up {m : Nat} (h : m < 1000000) : m < 10 ^ ndf 6 m := ndf_up0 6 m h
theorem len4 (f : Nat) : ∀ n i c m : Nat, i + f = 6 → f < n → m < 10 ^ f → m < 2 ^ 31 → f_X4_length_6 n (nI c) (nI m) (nI i) = some (nI (c + ndf f m)) := by
  induction f with
  | zero =>
    intro n i c m hi hn hm h2
    obtain ⟨n, rfl⟩ := zn_s hn
    have hi6 : i = 6 := by omega
    subst hi6
    rw [f_X4_length_6, if_pos (show (6 : Int32) ≤ nI 6 by decide)]
    rfl
  | succ f ih =>
    intro n i c m hi hn hm h2
    obtain ⟨n, rfl⟩ := zn_s hn
    rw [f_X4_length_6, if_neg (show ¬ (6 : Int32) ≤ nI i from nI_ge (b := 6) (show i < 6 by omega) (by decide))]
    by_cases h0 : m = 0
    · subst h0
      rw [if_pos (show nI 0 ≤ 0 by decide), ndf_0]
      rfl
    · rw [if_neg (nI_nle (by omega) h2), dv10 h2, nI_1, nI_1, ih n (i + 1) (c + 1) (m / 10) (by omega) (by omega) (d10 hm) (d31 h2), ndf_s h0]
      rw [show c + 1 + ndf f (m / 10) = c + (ndf f (m / 10) + 1) by omega]
theorem len_X4 {m : Nat} (h : m < 1000000) : f_X4_length (nI m) = some (nI (ndf 6 m)) := by
  have h1 := len4 6 600 0 0 m rfl (by decide) h (m31 h)
  rw [Nat.zero_add] at h1
  exact h1
theorem dig8 (f : Nat) : ∀ n c m : Nat, f < n → m < 10 ^ f → m < 2 ^ 31 → f_X8_digits_4 n (nI c) (nI m) = some (nI (c + ndf f m)) := by
  induction f with
  | zero =>
    intro n c m hn hm h2
    obtain ⟨n, rfl⟩ := zn_s hn
    have h0 : m = 0 := by
      have : (10 : Nat) ^ 0 = 1 := rfl
      omega
    subst h0
    rw [f_X8_digits_4, if_pos (show nI 0 ≤ 0 by decide)]
    rfl
  | succ f ih =>
    intro n c m hn hm h2
    obtain ⟨n, rfl⟩ := zn_s hn
    rw [f_X8_digits_4]
    by_cases h0 : m = 0
    · subst h0
      rw [if_pos (show nI 0 ≤ 0 by decide), ndf_0]
      rfl
    · rw [if_neg (nI_nle (by omega) h2), dv10 h2, nI_1, ih n (c + 1) (m / 10) (by omega) (d10 hm) (d31 h2), ndf_s h0]
      rw [show c + 1 + ndf f (m / 10) = c + (ndf f (m / 10) + 1) by omega]
theorem dig_X8 {m : Nat} (f : Nat) (hf : f < 600) (h : m < 10 ^ f) (h2 : m < 2 ^ 31) : f_X8_digits (nI m) = some (nI (ndf f m)) := by
  have h1 := dig8 f 600 0 m hf h h2
  rw [Nat.zero_add] at h1
  exact h1
theorem dig6 {m : Nat} (h : m < 1000000) : f_X8_digits (nI m) = some (nI (ndf 6 m)) := dig_X8 6 (by decide) h (m31 h)
theorem wl4 (k : Nat) : ∀ n s i m : Nat, i + k = s → k < n → s < 100 → m < 2 ^ 31 → f_X4_withoutLast_4 n (nI s) (nI m) (nI i) = some (nI (m / 10 ^ k)) := by
  induction k with
  | zero =>
    intro n s i m hi hn hs h2
    obtain ⟨n, rfl⟩ := zn_s hn
    rw [f_X4_withoutLast_4, if_pos (nI_le (show s ≤ i by omega) (by omega)), Nat.pow_zero, Nat.div_one]
  | succ k ih =>
    intro n s i m hi hn hs h2
    obtain ⟨n, rfl⟩ := zn_s hn
    rw [f_X4_withoutLast_4, if_neg (nI_ge (show i < s by omega) (by omega)), dv10 h2, nI_1, ih n s (i + 1) (m / 10) (by omega) (by omega) hs (d31 h2), dd10]
theorem wl_X4 {m s : Nat} (h : m < 1000000) (hs : s < 100) : f_X4_withoutLast (nI m) (nI s) = some (nI (m / 10 ^ s)) := wl4 s 600 s 0 m (Nat.zero_add s) (by omega) hs (m31 h)
theorem up8 (k : Nat) : ∀ n u m : Nat, k < n → u + k < 1000 → m < 2 ^ 31 → f_X8_upper_7 n (nI u) (nI m) (nI (u + k)) = some (nI (m / 10 ^ k)) := by
  induction k with
  | zero =>
    intro n u m hn hs h2
    obtain ⟨n, rfl⟩ := zn_s hn
    rw [f_X8_upper_7, if_pos (nI_le (show u + 0 ≤ u by omega) (by omega)), Nat.pow_zero, Nat.div_one]
  | succ k ih =>
    intro n u m hn hs h2
    obtain ⟨n, rfl⟩ := zn_s hn
    rw [f_X8_upper_7, if_neg (nI_ge (show u < u + (k + 1) by omega) (by omega)), dv10 h2, show nI (u + (k + 1)) + (-1) = nI (u + k) from pk_m1 (u + k), ih n u (m / 10) (by omega) (by omega) (d31 h2), dd10]
theorem up_0 (n u d m : Nat) (h : d ≤ u) (hu : u < 1000) : f_X8_upper_7 (n + 1) (nI u) (nI m) (nI d) = some (nI m) := by
  rw [f_X8_upper_7, if_pos (nI_le h (by omega))]
theorem up_X8 {m u : Nat} (h : m < 1000000) (hu : u < 100) : f_X8_upper (nI m) (nI u) = some (nI (m / 10 ^ (ndf 6 m - u))) := by
  have hl := ndf_le 6 m
  unfold f_X8_upper
  rw [dig6 h, zbs]
  by_cases hk : u ≤ ndf 6 m
  · obtain ⟨k, hk'⟩ : ∃ k, ndf 6 m = u + k := ⟨ndf 6 m - u, by omega⟩
    rw [hk', show u + k - u = k by omega]
    exact up8 k 600 u m (by omega) (by omega) (m31 h)
  · rw [show ndf 6 m - u = 0 by omega, Nat.pow_zero, Nat.div_one]
    exact up_0 599 u (ndf 6 m) m (by omega) (by omega)
theorem dgt_X8 {m j : Nat} (h : m < 1000000) (hj : j < 90) : f_X8_digit (nI m) (nI j) = some (nI (m / 10 ^ (ndf 6 m - (j + 1)) % 10)) := by
  unfold f_X8_digit
  rw [nI_1, up_X8 h (by omega), zbs, rm10 (p31 (m31 h))]
/-- what isBelow asks -/
def Blw (a b : Nat) : Prop := ndf 6 b ≤ ndf 6 a ∧ a / 10 ^ (ndf 6 a - ndf 6 b) = b
theorem blw_eq {a b : Nat} (ha : a < 1000000) (hb : b < 1000000) : ∃ r, f_X4_isBelow (nI a) (nI b) = some r ∧ f_X8_isBelow (nI a) (nI b) = some r ∧ (r = 0 ∨ r = 1 ∧ Blw a b) := by
  have h1 := ndf_le 6 a
  have h2 := ndf_le 6 b
  unfold f_X4_isBelow f_X8_isBelow
  rw [len_X4 ha, zbs, len_X4 hb, zbs, dig6 ha, zbs, dig6 hb, zbs]
  by_cases hl : ndf 6 a < ndf 6 b
  · exact ⟨0, by rw [if_pos (pk_sneg (by omega) hl)], by rw [if_pos (nI_lt hl (by omega))], Or.inl rfl⟩
  · rw [pk_sub (show ndf 6 b ≤ ndf 6 a by omega), if_neg (nI_pos (by omega)), if_neg (nI_nlt (show ndf 6 b ≤ ndf 6 a by omega) (by omega)), wl_X4 ha (by omega), zbs, zbs, up_X8 ha (by omega), zbs]
    by_cases he : a / 10 ^ (ndf 6 a - ndf 6 b) = b
    · exact ⟨1, by rw [if_pos ((nI_eq (p31 (m31 ha)) (m31 hb)).mpr he)], by rw [if_pos ((nI_eq (p31 (m31 ha)) (m31 hb)).mpr he)], Or.inr ⟨rfl, by omega, he⟩⟩
    · exact ⟨0, by rw [if_neg (fun q => he ((nI_eq (p31 (m31 ha)) (m31 hb)).mp q))], by rw [if_neg (fun q => he ((nI_eq (p31 (m31 ha)) (m31 hb)).mp q))], Or.inl rfl⟩
/-- of two that one path is below, the longer one is the greater -/
theorem blw_ord {a b b' : Nat} (h : Blw a b) (h' : Blw a b') : b ≤ b' ↔ ndf 6 b ≤ ndf 6 b' := by
  constructor
  · intro q
    exact ndf_mono 6 _ _ q
  · intro q
    have h1 : a / 10 ^ (ndf 6 a - ndf 6 b) ≤ a / 10 ^ (ndf 6 a - ndf 6 b') := Nat.div_le_div_left (Nat.pow_le_pow_right (by decide) (by omega)) (Nat.pow_pos (by decide))
    rw [h.2, h'.2] at h1
    exact h1
/-- the digits are from 1 to h -/
def okb (h : Nat) : Nat → Nat → Bool
  | 0, _ => true
  | f + 1, m => if m = 0 then true else if m % 10 < 1 then false else if h < m % 10 then false else okb h f (m / 10)
theorem hd4 {h : Nat} (hh : h ≤ 9) (f : Nat) : ∀ n i m : Nat, i + f = 6 → f < n → m < 10 ^ f → m < 2 ^ 31 → f_X4_hasDigits_17 n (nI h) (nI m) (nI i) = some (if okb h f m = true then 1 else 0) := by
  induction f with
  | zero =>
    intro n i m hi hn hm h2
    obtain ⟨n, rfl⟩ := zn_s hn
    have hi6 : i = 6 := by omega
    subst hi6
    rw [f_X4_hasDigits_17, if_pos (show (6 : Int32) ≤ nI 6 by decide)]
    rfl
  | succ f ih =>
    intro n i m hi hn hm h2
    obtain ⟨n, rfl⟩ := zn_s hn
    rw [f_X4_hasDigits_17, if_neg (show ¬ (6 : Int32) ≤ nI i from nI_ge (b := 6) (show i < 6 by omega) (by decide)), okb]
    by_cases h0 : m = 0
    · subst h0
      rw [if_pos (show nI 0 ≤ 0 by decide), if_pos rfl, if_pos rfl]
    · rw [if_neg (nI_nle (by omega) h2), if_neg h0, rm10 h2]
      by_cases h1 : m % 10 < 1
      · rw [if_pos (show nI (m % 10) < 1 from nI_lt (b := 1) h1 (by decide)), if_pos h1]
        rfl
      · rw [if_neg (show ¬ nI (m % 10) < 1 from nI_nlt (b := 1) (by omega) (m10 m)), if_neg h1]
        by_cases h3 : h < m % 10
        · rw [if_neg (nI_ge h3 (m10 m)), if_pos h3]
          rfl
        · rw [if_pos (nI_le (show m % 10 ≤ h by omega) (by omega)), if_neg h3, dv10 h2, nI_1, ih n (i + 1) (m / 10) (by omega) (by omega) (d10 hm) (d31 h2)]
theorem iw0 {h : Nat} (f : Nat) : ∀ n m : Nat, f < n → m < 10 ^ f → m < 2 ^ 31 → f_X8_isWritten_21 n (nI h) 0 (nI m) = some 0 := by
  induction f with
  | zero =>
    intro n m hn hm h2
    obtain ⟨n, rfl⟩ := zn_s hn
    have h0 : m = 0 := by
      have : (10 : Nat) ^ 0 = 1 := rfl
      omega
    subst h0
    rw [f_X8_isWritten_21, if_pos (show nI 0 ≤ 0 by decide)]
    rfl
  | succ f ih =>
    intro n m hn hm h2
    obtain ⟨n, rfl⟩ := zn_s hn
    rw [f_X8_isWritten_21]
    by_cases h0 : m = 0
    · subst h0
      rw [if_pos (show nI 0 ≤ 0 by decide)]
      rfl
    · rw [if_neg (nI_nle (by omega) h2), if_pos rfl, dv10 h2]
      exact ih n (m / 10) (by omega) (d10 hm) (d31 h2)
theorem iw1 {h : Nat} (hh : h ≤ 9) (f : Nat) : ∀ n m : Nat, f < n → m < 10 ^ f → m < 2 ^ 31 → f_X8_isWritten_21 n (nI h) 1 (nI m) = some (if okb h f m = true then 1 else 0) := by
  induction f with
  | zero =>
    intro n m hn hm h2
    obtain ⟨n, rfl⟩ := zn_s hn
    have h0 : m = 0 := by
      have : (10 : Nat) ^ 0 = 1 := rfl
      omega
    subst h0
    rw [f_X8_isWritten_21, if_pos (show nI 0 ≤ 0 by decide)]
    rfl
  | succ f ih =>
    intro n m hn hm h2
    obtain ⟨n, rfl⟩ := zn_s hn
    rw [f_X8_isWritten_21, okb]
    by_cases h0 : m = 0
    · subst h0
      rw [if_pos (show nI 0 ≤ 0 by decide), if_pos rfl]
      rfl
    · rw [if_neg (nI_nle (by omega) h2), if_neg (show ¬ (1 : Int32) = 0 by decide), if_neg h0, rm10 h2]
      by_cases h1 : m % 10 < 1
      · rw [if_pos (show nI (m % 10) < 1 from nI_lt (b := 1) h1 (by decide)), if_pos h1, dv10 h2, iw0 f n (m / 10) (by omega) (d10 hm) (d31 h2)]
        rfl
      · rw [if_neg (show ¬ nI (m % 10) < 1 from nI_nlt (b := 1) (by omega) (m10 m)), if_neg h1]
        by_cases h3 : h < m % 10
        · rw [if_pos (nI_lt h3 (m10 m)), if_pos h3, dv10 h2, iw0 f n (m / 10) (by omega) (d10 hm) (d31 h2)]
          rfl
        · rw [if_neg (nI_nlt (show m % 10 ≤ h by omega) (by omega)), if_neg h3, dv10 h2]
          exact ih n (m / 10) (by omega) (d10 hm) (d31 h2)
theorem iwn (n : Nat) {h x : Int32} (hx : x ≤ 0) : f_X8_isWritten_21 (n + 1) h 0 x = some 0 := by
  rw [f_X8_isWritten_21, if_pos hx]
  rfl
theorem i32_le0 {x : Int32} (h : x < 0) : x ≤ 0 := Int32.le_iff_toInt_le.mpr (Int.le_of_lt (Int32.lt_iff_toInt_lt.mp h))
theorem i32_lt1 {x : Int32} (h : x < 0) : x < 1 := Int32.lt_iff_toInt_lt.mpr (Int.lt_trans (Int32.lt_iff_toInt_lt.mp h) (by decide))
theorem wri {h : Nat} (hh : h ≤ 9) (x : Int32) : ∃ r, f_X4_hasDigits x (nI h) = some r ∧ f_X8_isWritten x (nI h) = some r ∧ (r = 0 ∨ r = 1 ∧ isP x) := by
  unfold f_X4_hasDigits f_X8_isWritten
  by_cases hx : x < 0
  · exact ⟨0, by rw [if_pos (i32_lt1 hx)], by rw [if_pos (i32_le0 hx)]; exact iwn 599 (i32_le0 hx), Or.inl rfl⟩
  · obtain ⟨m, hm, rfl⟩ := nI_of hx
    by_cases h0 : m = 0
    · subst h0
      exact ⟨0, by rw [if_pos (show nI 0 < 1 by decide)], by rw [if_pos (show nI 0 ≤ 0 by decide)]; exact iwn 599 (show nI 0 ≤ 0 by decide), Or.inl rfl⟩
    · rw [if_neg (show ¬ nI m < 1 from nI_nlt (b := 1) (by omega) hm), if_neg (nI_nle (show 0 < m by omega) hm)]
      by_cases h1 : m ≤ 999999
      · rw [if_pos (show nI m ≤ 999999 from nI_le (b := 999999) h1 (by decide)), dig6 (show m < 1000000 by omega), zbs]
        have h3 := ndf_le 6 m
        rw [if_neg (show ¬ (6 : Int32) < nI (ndf 6 m) from nI_nlt (a := 6) h3 (by decide))]
        refine ⟨if okb h 6 m = true then 1 else 0, hd4 hh 6 600 0 m rfl (by decide) (show m < 10 ^ 6 by omega) hm, iw1 hh 6 600 m (by decide) (show m < 10 ^ 6 by omega) hm, ?_⟩
        by_cases h4 : okb h 6 m = true
        · rw [if_pos h4]; exact Or.inr ⟨rfl, m, by omega, rfl⟩
        · rw [if_neg h4]; exact Or.inl rfl
      · have h2 : m < 10 ^ 10 := Nat.lt_trans hm (by decide)
        rw [if_neg (show ¬ nI m ≤ 999999 from nI_ge (a := 999999) (by omega) hm), dig_X8 10 (by decide) h2 hm, zbs]
        have h3 := ndf_le 10 m
        rw [if_pos (show (6 : Int32) < nI (ndf 10 m) from nI_lt (a := 6) (ndf_gt 6 10 m (by omega) (by decide)) (by omega))]
        exact ⟨0, rfl, iw0 10 600 m (by decide) h2 hm, Or.inl rfl⟩
theorem zbo_b {α : Type} {r : Int32} (h : r = 0 ∨ r = 1) (a : Option α) : zbo r a = a := by
  unfold zbo
  rcases h with h | h
  · subst h; exact if_pos (by decide)
  · subst h; exact if_pos (by decide)
theorem or_b {r : Int32} {Q : Prop} (h : r = 0 ∨ r = 1 ∧ Q) : r = 0 ∨ r = 1 := h.imp id (fun q => q.1)
theorem pth (x : Int32) : ∃ r, f_X4_isPath x = some r ∧ f_X8_isPath x = some r ∧ (r = 0 ∨ r = 1 ∧ isP x) := by
  obtain ⟨r, h1, h2, h3⟩ := wri (h := 8) (by decide) x
  refine ⟨r, ?_, ?_, h3⟩
  · unfold f_X4_isPath
    rw [show f_X4_hasDigits x 8 = some r from h1, zbs, zbo_b (or_b h3)]
  · unfold f_X8_isPath
    rw [show f_X8_isWritten x 8 = some r from h2, zbs, zbo_b (or_b h3)]
theorem ptn (x : Int32) : ∃ r, f_X4_isPattern x = some r ∧ f_X8_isWritten x 9 = some r ∧ (r = 0 ∨ r = 1 ∧ isP x) := by
  obtain ⟨r, h1, h2, h3⟩ := wri (h := 9) (by decide) x
  refine ⟨r, ?_, h2, h3⟩
  unfold f_X4_isPattern
  rw [show f_X4_hasDigits x 9 = some r from h1, zbs, zbo_b (or_b h3)]
