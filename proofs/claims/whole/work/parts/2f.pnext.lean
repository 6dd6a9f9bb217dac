/-! pure: nextEnd -/
def cmb (F w : Int32) : Int32 := if F = -1 then w else if w = -1 then F else if w < F then w else F
theorem cmb_step {F w e s : Int32} (hF : F = -1 ∨ s < F) (hw : w = -1 ∨ s < w) (he : s < e) (hs : 0 ≤ s) : (if cmb F w = -1 then e else if cmb F w ≤ e then cmb F w else e) = cmb F (if w = -1 then e else if w ≤ e then w else e) := by
  have hne : ∀ x : Int32, s < x → ¬ x = -1 := fun x hx q => by
    rw [q] at hx
    exact absurd (Int32.lt_of_le_of_lt hs hx) (by decide)
  have hem := hne e he
  unfold cmb
  by_cases h1 : F = -1
  · rw [if_pos h1, if_pos h1]
  · rw [if_neg h1, if_neg h1]
    by_cases h2 : w = -1
    · rw [if_pos h2, if_pos h2, if_neg h1, if_neg hem]
      by_cases h3 : F ≤ e
      · rw [if_pos h3, if_neg (i32_ge h3)]
      · rw [if_neg h3, if_pos (i32_nle h3)]
    · rw [if_neg h2, if_neg h2]
      by_cases h3 : w ≤ e
      · rw [if_pos h3, if_neg h2]
        by_cases h4 : w < F
        · rw [if_pos h4, if_neg h2, if_pos h3]
        · rw [if_neg h4, if_neg h1, if_pos (Int32.le_trans (i32_nlt h4) h3)]
      · rw [if_neg h3, if_neg hem]
        have hew : e < w := i32_nle h3
        by_cases h4 : w < F
        · rw [if_pos h4, if_neg h2, if_neg h3, if_pos (Int32.lt_trans hew h4)]
        · rw [if_neg h4, if_neg h1]
          by_cases h5 : F ≤ e
          · rw [if_pos h5, if_neg (i32_ge h5)]
          · rw [if_neg h5, if_pos (i32_nle h5)]
theorem ne_T {T S Sc : SS} {m : Nat} (hSc : ∀ r, r ≠ 0 → Sc r = S r) (t4 : T 4 0 = nI m) (h11 : S 11 0 = nI m) (hm : m ≤ 513) (q3 : T 3 = S 12) (q1 : T 1 = S 16) (hs : 0 ≤ S 1 0) (hA : ∀ t, 1 ≤ t → t < m → S 12 t ≠ 0 → S 1 0 < S 16 t) (k : Nat) : ∀ (n1 n2 i : Nat) (v : Int32), i + k = m → k < n1 → k < n2 → 1 ≤ i → (v = -1 ∨ S 1 0 < v) →
    ∃ w, f_X2_firstEnd_4 T n1 v (nI i) = some w ∧ f_X8_nextEnd_9 n2 Sc v (nI i) = f_X8_nextEnd_60 600 Sc w 0 ∧ (w = -1 ∨ S 1 0 < w) := by
  induction k with
  | zero =>
    intro n1 n2 i v hi hn1 hn2 h1 hv
    obtain ⟨n1, rfl⟩ := zn_s hn1
    obtain ⟨n2, rfl⟩ := zn_s hn2
    refine ⟨v, ?_, ?_, hv⟩
    · rw [f_X2_firstEnd_4, t4, if_pos (nI_le (show m ≤ i by omega) (by omega))]
    · rw [f_X8_nextEnd_9, hSc 11 (by decide), h11, if_pos (nI_le (show m ≤ i by omega) (by omega))]
  | succ k ih =>
    intro n1 n2 i v hi hn1 hn2 h1 hv
    obtain ⟨n1, rfl⟩ := zn_s hn1
    obtain ⟨n2, rfl⟩ := zn_s hn2
    have him : i < m := by omega
    have z5 : ∀ {α : Type} (o : Option α), zix (nI i) 513 o = o := fun o => zix_nI (show i < 513 by omega) (by decide) o
    have z : ∀ {α : Type} (o : Option α), zix (nI i) 520 o = o := fun o => zix_nI (show i < 520 by omega) (by decide) o
    have cm : (nI i).toNatClampNeg = i := nI_clamp (by omega)
    rw [f_X2_firstEnd_4, f_X8_nextEnd_9, t4, hSc 11 (by decide), h11, hSc 12 (by decide), hSc 16 (by decide), q3, q1, if_neg (nI_ge him (by omega)), if_neg (nI_ge him (by omega))]
    simp only [z, z5, cm, nI_1]
    by_cases h0 : S 12 i = 0
    · rw [if_pos h0, if_pos h0]
      exact ih n1 n2 (i + 1) v (by omega) (by omega) (by omega) (by omega) hv
    · have he := hA i h1 him h0
      have hem : ¬ S 16 i = -1 := fun q => by
        rw [q] at he
        exact absurd (Int32.lt_of_le_of_lt hs he) (by decide)
      rw [if_neg h0, if_neg h0, if_neg hem]
      by_cases h2 : v = -1
      · rw [if_pos h2, if_pos h2]
        exact ih n1 n2 (i + 1) (S 16 i) (by omega) (by omega) (by omega) (by omega) (Or.inr he)
      · rw [if_neg h2, if_neg h2]
        by_cases h3 : v ≤ S 16 i
        · rw [if_pos h3, if_pos h3]
          exact ih n1 n2 (i + 1) v (by omega) (by omega) (by omega) (by omega) hv
        · rw [if_neg h3, if_neg h3]
          exact ih n1 n2 (i + 1) (S 16 i) (by omega) (by omega) (by omega) (by omega) (Or.inr he)
theorem ne_K {K S Sc : SS} {g : Nat} {F : Int32} (hSc : ∀ r, r ≠ 0 → Sc r = S r) (k4 : K 4 0 = nI g) (h19 : S 19 0 = nI g) (hg : g ≤ 513) (q3 : K 3 = S 20) (q1 : K 1 = S 24) (hs : 0 ≤ S 1 0) (hA : ∀ t, t < g → S 20 t ≠ 0 → S 1 0 < S 24 t) (hF : F = -1 ∨ S 1 0 < F) (k : Nat) : ∀ (n1 n2 i : Nat) (w : Int32), i + k = g → k < n1 → k < n2 → (w = -1 ∨ S 1 0 < w) →
    ∃ w', f_X2_firstEnd_4 K n1 w (nI i) = some w' ∧ f_X8_nextEnd_60 n2 Sc (cmb F w) (nI i) = some (cmb F w', Sc) ∧ (w' = -1 ∨ S 1 0 < w') := by
  induction k with
  | zero =>
    intro n1 n2 i w hi hn1 hn2 hw
    obtain ⟨n1, rfl⟩ := zn_s hn1
    obtain ⟨n2, rfl⟩ := zn_s hn2
    refine ⟨w, ?_, ?_, hw⟩
    · rw [f_X2_firstEnd_4, k4, if_pos (nI_le (show g ≤ i by omega) (by omega))]
    · rw [f_X8_nextEnd_60, hSc 19 (by decide), h19, if_pos (nI_le (show g ≤ i by omega) (by omega))]
  | succ k ih =>
    intro n1 n2 i w hi hn1 hn2 hw
    obtain ⟨n1, rfl⟩ := zn_s hn1
    obtain ⟨n2, rfl⟩ := zn_s hn2
    have him : i < g := by omega
    have z5 : ∀ {α : Type} (o : Option α), zix (nI i) 513 o = o := fun o => zix_nI (show i < 513 by omega) (by decide) o
    have z : ∀ {α : Type} (o : Option α), zix (nI i) 520 o = o := fun o => zix_nI (show i < 520 by omega) (by decide) o
    have cm : (nI i).toNatClampNeg = i := nI_clamp (by omega)
    rw [f_X2_firstEnd_4, f_X8_nextEnd_60, k4, hSc 19 (by decide), h19, hSc 20 (by decide), hSc 24 (by decide), q3, q1, if_neg (nI_ge him (by omega)), if_neg (nI_ge him (by omega))]
    simp only [z, z5, cm, nI_1]
    by_cases h0 : S 20 i = 0
    · rw [if_pos h0, if_pos h0]
      exact ih n1 n2 (i + 1) w (by omega) (by omega) (by omega) hw
    · have he := hA i him h0
      have hem : ¬ S 24 i = -1 := fun q => by
        rw [q] at he
        exact absurd (Int32.lt_of_le_of_lt hs he) (by decide)
      have hst := cmb_step hF hw he hs
      have hw1 : (if w = -1 then S 24 i else if w ≤ S 24 i then w else S 24 i) = -1 ∨ S 1 0 < (if w = -1 then S 24 i else if w ≤ S 24 i then w else S 24 i) := by
        by_cases h2 : w = -1
        · rw [if_pos h2]; exact Or.inr he
        · rw [if_neg h2]
          by_cases h3 : w ≤ S 24 i
          · rw [if_pos h3]; exact hw
          · rw [if_neg h3]; exact Or.inr he
      obtain ⟨w', e1, e2, e3⟩ := ih n1 n2 (i + 1) (if w = -1 then S 24 i else if w ≤ S 24 i then w else S 24 i) (by omega) (by omega) (by omega) hw1
      refine ⟨w', ?_, ?_, e3⟩
      · rw [if_neg h0, if_neg hem, ← e1]
        by_cases h2 : w = -1
        · rw [if_pos h2, if_pos h2]
        · rw [if_neg h2, if_neg h2]
          by_cases h3 : w ≤ S 24 i
          · rw [if_pos h3, if_pos h3]
          · rw [if_neg h3, if_neg h3]
      · rw [if_neg h0, ← e2, ← hst]
        by_cases h2 : cmb F w = -1
        · rw [if_pos h2, if_pos h2]
        · rw [if_neg h2, if_neg h2]
          by_cases h3 : cmb F w ≤ S 24 i
          · rw [if_pos h3, if_pos h3]
          · rw [if_neg h3, if_neg h3]
theorem st_nextEnd {c : Nat} (hc : c < 512) {B P M T K U : SS} {L : SL} {S : SS} {V : SL} (H : Inv c B P M T K U L S V) : ∃ q S', f_X7_nextEnd T K = some q ∧ f_X8_nextEnd S = some (q, S') ∧ Inv (c + 1) B P M T K U L S' V := by
  have H0 := H
  obtain ⟨⟨_, _, _, _, RT, RK, _⟩, ⟨τ, hτ, hs1⟩, _, _, ⟨m, hm1, hmc, h11, h12, h13, h14, h16, t5, c30, hp⟩, ⟨g, m', hgc, h19, hmc', h11', k5, c40, ho⟩, _⟩ := H0
  have hs : 0 ≤ S 1 0 := by rw [hs1]; exact nI_pos' (by omega)
  have hSc : ∀ r, r ≠ 0 → (zs S 0 0) r = S r := fun r hr => zs_out _ _ hr
  obtain ⟨F, f1, f2, f3⟩ := ne_T (T := T) hSc (RT.1.trans h11) h11 (by omega) RT.2.1 RT.2.2.2.2.2.1 hs (fun t t1 t2 hl => ((hp t t1 t2).2 hl).1) (m - 1) 599 600 1 (-1) (by omega) (by omega) (by omega) (Nat.le_refl 1) (Or.inl rfl)
  obtain ⟨w, e1, e2, e3⟩ := ne_K (K := K) (F := F) hSc (RK.1.trans h19) h19 (by omega) RK.2.1 RK.2.2.2.2.2.1 hs (fun t t2 hl => ((ho t t2).2.2 hl).1) f3 g 600 600 0 (-1) (Nat.zero_add g) (by omega) (by omega) (Or.inl rfl)
  have hT : f_X2_firstEnd T = some F := by
    show f_X2_firstEnd_4 T (598 + 1 + 1) (-1) 0 = _
    have c0 : (0 : Int32).toNatClampNeg = 0 := by decide
    have z0 : ∀ {α : Type} (o : Option α), zix 0 513 o = o := fun o => zix0 513 (by decide) o
    rw [f_X2_firstEnd_4, RT.1, h11, if_neg (show ¬ nI m ≤ 0 from nI_nle (by omega) (by omega)), z0, RT.2.1, RT.2.2.2.2.2.1, c0, if_neg h12, z0, h16, if_pos rfl, show (0 : Int32) + 1 = nI 1 from nI_1 0]
    exact f1
  have hK : f_X2_firstEnd K = some w := e1
  have hcm : cmb F (-1) = F := by
    unfold cmb
    by_cases h : F = -1
    · rw [if_pos h, h]
    · rw [if_neg h, if_pos rfl]
  rw [hcm] at e2
  refine ⟨cmb F w, zs S 0 0, ?_, ?_, H.th (eqr_zs (by omega) eqr_rf)⟩
  · unfold f_X7_nextEnd
    rw [hT, zbs, hK, zbs]
    have hm : ∀ x : Int32, S 1 0 < x → (-1 : Int32) < x := fun x hx => Int32.lt_of_lt_of_le (show (-1 : Int32) < 0 by decide) (Int32.le_of_lt (Int32.lt_of_le_of_lt hs hx))
    unfold cmb
    by_cases h1 : F = -1
    · rw [if_pos h1, if_pos h1]
      rcases e3 with h2 | h2
      · rw [h1, h2, if_neg (by decide)]
      · rw [h1, if_pos (hm w h2)]
    · rw [if_neg h1, if_neg h1]
      by_cases h2 : w = -1
      · rw [if_pos h2, if_pos h2, h2, if_neg (i32_ge (Int32.le_of_lt (hm F (f3.resolve_left h1))))]
      · rw [if_neg h2, if_neg h2]
  · unfold f_X8_nextEnd
    rw [show f_X8_nextEnd_9 600 (zs S 0 0) (-1) 1 = f_X8_nextEnd_60 600 (zs S 0 0) F 0 from f2]
    exact e2
