/-! pure: what ends -/
theorem has_X2' {T : SS} {m t : Nat} (h4 : T 4 0 = nI m) (hm : m < 2 ^ 31) (ht : t < m) : f_X2_has T (nI t) = some 1 := by
  unfold f_X2_has
  rw [h4, if_neg (nI_pos (by omega)), if_neg (nI_ge ht hm)]
theorem is_X2 {T : SS} {m t : Nat} (h4 : T 4 0 = nI m) (hm : m ≤ 513) (ht : t < m) : f_X2_isOn T (nI t) = some (if T 3 t = 0 then 0 else 1) := by
  unfold f_X2_isOn
  rw [has_X2' h4 (by omega) ht, zbs, if_neg n10, zix_nI (show t < 513 by omega) (by decide), nI_clamp (show t < 2 ^ 31 by omega)]
  by_cases h : T 3 t = 0
  · rw [if_pos h, if_pos h]
  · rw [if_neg h, if_neg h]
/-- but for rows 3 and 5 the same -/
def agr (T T' : SS) : Prop := ∀ r, r ≠ 3 → r ≠ 5 → T' r = T r
theorem endL {T : SS} {m t : Nat} (h4 : T 4 0 = nI m) (hm : m ≤ 513) (ht : t < m) (h5 : T 5 0 = nI (cnt (T 3) m)) :
    ∃ d T', f_X2_end T (nI t) = some (nI d, T') ∧ T' 3 = upd (T 3) t 0 ∧ agr T T' ∧ T' 5 0 = nI (cnt (T' 3) m) ∧ cnt (T' 3) m + d = cnt (T 3) m ∧ (T 3 t ≠ 0 → d = 1) := by
  unfold f_X2_end
  rw [is_X2 h4 hm ht, zbs]
  by_cases h : T 3 t = 0
  · rw [if_pos h, if_pos rfl]
    exact ⟨0, T, rfl, (upd_same h).symm, fun _ _ _ => rfl, h5, rfl, fun q => absurd h q⟩
  · rw [if_neg h, if_neg n10, zix_nI (show t < 513 by omega) (by decide)]
    have hc := cnt_upd0 (f := T 3) (n := m) (t := t) ht
    rw [if_neg h] at hc
    have e3 : (zs (za T 3 (nI t) (vp_nar .boolean 0)) 5 (T 5 0 - 1)) 3 = upd (T 3) t 0 := by
      show upd (T 3) (nI t).toNatClampNeg (vp_nar .boolean 0) = _
      rw [nI_clamp (by omega), vn0]
    refine ⟨1, zs (za T 3 (nI t) (vp_nar .boolean 0)) 5 (T 5 0 - 1), rfl, e3, fun r h1 h2 => (zs_out _ _ h2).trans (za_out _ _ _ h1), ?_, ?_, fun _ => rfl⟩
    · rw [e3]
      show T 5 0 - 1 = _
      rw [h5, nI_m1 (by omega), show cnt (T 3) m - 1 = cnt (upd (T 3) t 0) m by omega]
    · rw [e3]
      exact hc
theorem gl_all {T : SS} {m : Nat} (C : (Nat → Int32) → Nat → Prop) (hC : ∀ R R' t, t < m → (∀ s, s < t → R s = R' s) → (C R t ↔ C R' t)) (g : Nat → SS → Int32 → Int32 → Option (Int32 × SS))
    (g0 : ∀ n Tc w, agr T Tc → g (n + 1) Tc w (nI m) = some (w, Tc))
    (g1 : ∀ n Tc w i, agr T Tc → i < m → ¬ C (Tc 3) i → g (n + 1) Tc w (nI i) = g n Tc w (nI (i + 1)))
    (g2 : ∀ n Tc w i, agr T Tc → i < m → C (Tc 3) i → g (n + 1) Tc w (nI i) = (f_X2_end Tc (nI i)).bind (fun r => g n r.2 (w + r.1) (nI (i + 1))))
    (h4 : T 4 0 = nI m) (hm : m ≤ 513) (k : Nat) : ∀ n i Tc w, i + k = m → k < n → agr T Tc → Tc 5 0 = nI (cnt (Tc 3) m) → cnt (Tc 3) m + w = cnt (T 3) m →
    (∀ t, t < i → (C (Tc 3) t → Tc 3 t = 0) ∧ (¬ C (Tc 3) t → Tc 3 t = T 3 t)) → (∀ t, i ≤ t → Tc 3 t = T 3 t) →
    ∃ w' T', g n Tc (nI w) (nI i) = some (nI w', T') ∧ agr T T' ∧ T' 5 0 = nI (cnt (T' 3) m) ∧ cnt (T' 3) m + w' = cnt (T 3) m ∧ (∀ t, t < m → (C (T' 3) t → T' 3 t = 0) ∧ (¬ C (T' 3) t → T' 3 t = T 3 t)) ∧ (∀ t, m ≤ t → T' 3 t = T 3 t) := by
  induction k with
  | zero =>
    intro n i Tc w hi hn ha h5 hw hlo hhi
    obtain ⟨n, rfl⟩ := zn_s hn
    have : i = m := by omega
    subst this
    exact ⟨w, Tc, g0 n Tc _ ha, ha, h5, hw, hlo, hhi⟩
  | succ k ih =>
    intro n i Tc w hi hn ha h5 hw hlo hhi
    obtain ⟨n, rfl⟩ := zn_s hn
    have him : i < m := by omega
    by_cases hc : C (Tc 3) i
    · obtain ⟨d, T1, e1, e2, e3, e4, e5, _⟩ := endL (T := Tc) (by rw [ha 4 (by decide) (by decide)]; exact h4) hm him h5
      rw [g2 n Tc _ i ha him hc, e1, zbs, nI_add]
      have hlow : ∀ s, s ≠ i → T1 3 s = Tc 3 s := fun s hs => by rw [e2]; exact pk_un hs
      refine ih n (i + 1) T1 (w + d) (by omega) (by omega) (fun r r1 r2 => (e3 r r1 r2).trans (ha r r1 r2)) e4 (by omega) (fun t ht => ?_) (fun t ht => (hlow t (by omega)).trans (hhi t (by omega)))
      have hiff : C (T1 3) t ↔ C (Tc 3) t := hC _ _ t (by omega) (fun s hs => hlow s (by omega))
      by_cases hti : t = i
      · subst hti
        exact ⟨fun _ => by rw [e2]; exact pk_us, fun q => absurd (hiff.mpr hc) q⟩
      · rw [hiff, hlow t hti]
        exact hlo t (by omega)
    · rw [g1 n Tc _ i ha him hc]
      refine ih n (i + 1) Tc w (by omega) (by omega) ha h5 hw (fun t ht => ?_) (fun t ht => hhi t (by omega))
      by_cases hti : t = i
      · subst hti
        exact ⟨fun q => absurd q hc, fun _ => hhi t (Nat.le_refl _)⟩
      · exact hlo t (by omega)
theorem gl_top {T : SS} {m : Nat} (C : (Nat → Int32) → Nat → Prop) (hC : ∀ R R' t, t < m → (∀ s, s < t → R s = R' s) → (C R t ↔ C R' t)) (g : Nat → SS → Int32 → Int32 → Option (Int32 × SS))
    (g0 : ∀ n Tc w, agr T Tc → g (n + 1) Tc w (nI m) = some (w, Tc))
    (g1 : ∀ n Tc w i, agr T Tc → i < m → ¬ C (Tc 3) i → g (n + 1) Tc w (nI i) = g n Tc w (nI (i + 1)))
    (g2 : ∀ n Tc w i, agr T Tc → i < m → C (Tc 3) i → g (n + 1) Tc w (nI i) = (f_X2_end Tc (nI i)).bind (fun r => g n r.2 (w + r.1) (nI (i + 1))))
    (h4 : T 4 0 = nI m) (hm : m ≤ 513) (h5 : T 5 0 = nI (cnt (T 3) m)) :
    ∃ w' T', g 600 T 0 0 = some (nI w', T') ∧ agr T T' ∧ T' 5 0 = nI (cnt (T' 3) m) ∧ cnt (T' 3) m + w' = cnt (T 3) m ∧ (∀ t, t < m → (C (T' 3) t → T' 3 t = 0) ∧ (¬ C (T' 3) t → T' 3 t = T 3 t)) ∧ (∀ t, m ≤ t → T' 3 t = T 3 t) :=
  gl_all C hC g g0 g1 g2 h4 hm m 600 0 T 0 (Nat.zero_add m) (by omega) (fun _ _ _ => rfl) h5 rfl (fun t ht => absurd ht (Nat.not_lt_zero t)) (fun _ _ => rfl)
/-- but for row r the same -/
def agm (r : Nat) (S S' : SS) : Prop := ∀ j, j ≠ r → S' j = S j
theorem hl_all {β : Type} {S : SS} {m r i0 W : Nat} (C : (Nat → Int32) → Nat → Prop) (hC : ∀ R R' t, i0 ≤ t → t < m → (∀ s, s < t → R s = R' s) → (C R t ↔ C R' t)) (g : Nat → SS → Int32 → Int32 → β) (E : SS → Int32 → β)
    (g0 : ∀ n Sc w, agm r S Sc → g (n + 1) Sc w (nI m) = E Sc w)
    (g1 : ∀ n Sc w i, agm r S Sc → i0 ≤ i → i < m → (Sc r i = 0 ∨ ¬ C (Sc r) i) → g (n + 1) Sc w (nI i) = g n Sc w (nI (i + 1)))
    (g2 : ∀ n Sc w i, agm r S Sc → i0 ≤ i → i < m → Sc r i ≠ 0 → C (Sc r) i → g (n + 1) Sc w (nI i) = g n (za Sc r (nI i) (vp_nar .boolean 0)) (w + 1) (nI (i + 1)))
    (hm : m ≤ 520) (k : Nat) : ∀ n i Sc w, i + k = m → k < n → i0 ≤ i → agm r S Sc → cnt (Sc r) m + w = W →
    (∀ t, i0 ≤ t → t < i → (C (Sc r) t → Sc r t = 0) ∧ (¬ C (Sc r) t → Sc r t = S r t)) → (∀ t, (t < i0 ∨ i ≤ t) → Sc r t = S r t) →
    ∃ w' S', g n Sc (nI w) (nI i) = E S' (nI w') ∧ agm r S S' ∧ cnt (S' r) m + w' = W ∧ (∀ t, i0 ≤ t → t < m → (C (S' r) t → S' r t = 0) ∧ (¬ C (S' r) t → S' r t = S r t)) ∧ (∀ t, (t < i0 ∨ m ≤ t) → S' r t = S r t) := by
  induction k with
  | zero =>
    intro n i Sc w hi hn h0 ha hw hlo hhi
    obtain ⟨n, rfl⟩ := zn_s hn
    have : i = m := by omega
    subst this
    exact ⟨w, Sc, g0 n Sc _ ha, ha, hw, hlo, hhi⟩
  | succ k ih =>
    intro n i Sc w hi hn h0 ha hw hlo hhi
    obtain ⟨n, rfl⟩ := zn_s hn
    have him : i < m := by omega
    by_cases hc : Sc r i ≠ 0 ∧ C (Sc r) i
    · rw [g2 n Sc _ i ha h0 him hc.1 hc.2, nI_1]
      have e2 : (za Sc r (nI i) (vp_nar .boolean 0)) r = upd (Sc r) i 0 := by rw [za_nI Sc r (by omega), vn0]
      have hlow : ∀ s, s ≠ i → (za Sc r (nI i) (vp_nar .boolean 0)) r s = Sc r s := fun s hs => by rw [e2]; exact pk_un hs
      have hct := cnt_upd0 (f := Sc r) (n := m) (t := i) him
      rw [if_neg hc.1] at hct
      refine ih n (i + 1) (za Sc r (nI i) (vp_nar .boolean 0)) (w + 1) (by omega) (by omega) (by omega) (fun j hj => (za_out Sc _ _ hj).trans (ha j hj)) (by rw [e2]; omega) (fun t ht0 ht => ?_) (fun t ht => (hlow t (by omega)).trans (hhi t (by omega)))
      have hiff : C ((za Sc r (nI i) (vp_nar .boolean 0)) r) t ↔ C (Sc r) t := hC _ _ t ht0 (by omega) (fun s hs => hlow s (by omega))
      by_cases hti : t = i
      · subst hti
        exact ⟨fun _ => by rw [e2]; exact pk_us, fun q => absurd (hiff.mpr hc.2) q⟩
      · rw [hiff, hlow t hti]
        exact hlo t ht0 (by omega)
    · have hc' : Sc r i = 0 ∨ ¬ C (Sc r) i := by
        by_cases h9 : Sc r i = 0
        · exact Or.inl h9
        · exact Or.inr (fun q => hc ⟨h9, q⟩)
      rw [g1 n Sc _ i ha h0 him hc']
      refine ih n (i + 1) Sc w (by omega) (by omega) (by omega) ha hw (fun t ht0 ht => ?_) (fun t ht => hhi t (by omega))
      by_cases hti : t = i
      · subst hti
        exact ⟨fun q => hc'.elim id (fun z => absurd q z), fun _ => hhi t (Or.inr (Nat.le_refl _))⟩
      · exact hlo t ht0 (by omega)
/-! the class's four loops -/
theorem ebt {T : SS} {m : Nat} {now : Int32} (h4 : T 4 0 = nI m) (hm : m ≤ 513) (h5 : T 5 0 = nI (cnt (T 3) m)) :
    ∃ w' T', f_X2_endByTime T now = some (nI w', T') ∧ agr T T' ∧ T' 5 0 = nI (cnt (T' 3) m) ∧ cnt (T' 3) m + w' = cnt (T 3) m ∧ (∀ t, t < m → ((T 1 t ≠ -1 ∧ T 1 t ≤ now) → T' 3 t = 0) ∧ (¬ (T 1 t ≠ -1 ∧ T 1 t ≤ now) → T' 3 t = T 3 t)) ∧ (∀ t, m ≤ t → T' 3 t = T 3 t) := by
  have z : ∀ {α : Type} (i : Nat), i < m → ∀ (o : Option α), zix (nI i) 513 o = o := fun i hi o => zix_nI (show i < 513 by omega) (by decide) o
  refine gl_top (fun _ t => T 1 t ≠ -1 ∧ T 1 t ≤ now) (fun _ _ _ _ _ => Iff.rfl) (fun n Tc w i => f_X2_endByTime_4 n Tc now w i) (fun n Tc w ha => ?_) (fun n Tc w i ha hi hc => ?_) (fun n Tc w i ha hi hc => ?_) h4 hm h5
  · show f_X2_endByTime_4 (n + 1) Tc now w (nI m) = _
    rw [f_X2_endByTime_4, ha 4 (by decide) (by decide), h4, if_pos (nI_le (Nat.le_refl m) (by omega))]
  · show f_X2_endByTime_4 (n + 1) Tc now w (nI i) = f_X2_endByTime_4 n Tc now w (nI (i + 1))
    rw [f_X2_endByTime_4, ha 4 (by decide) (by decide), h4, if_neg (nI_ge hi (by omega)), z i hi, z i hi, ha 1 (by decide) (by decide), nI_clamp (show i < 2 ^ 31 by omega), nI_1]
    by_cases h1 : T 1 i = -1
    · rw [if_pos h1]
    · rw [if_neg h1, if_pos (i32_nle (fun q => hc ⟨h1, q⟩))]
  · show f_X2_endByTime_4 (n + 1) Tc now w (nI i) = (f_X2_end Tc (nI i)).bind (fun r => f_X2_endByTime_4 n r.2 now (w + r.1) (nI (i + 1)))
    rw [f_X2_endByTime_4, ha 4 (by decide) (by decide), h4, if_neg (nI_ge hi (by omega)), z i hi, z i hi, ha 1 (by decide) (by decide), nI_clamp (show i < 2 ^ 31 by omega), nI_1, if_neg hc.1, if_neg (i32_ge hc.2)]
theorem ebe {T : SS} {m : Nat} (h4 : T 4 0 = nI m) (hm : m ≤ 513) (h5 : T 5 0 = nI (cnt (T 3) m)) (hp : ∀ t, t < m → T 6 t = -1 ∨ ∃ p : Nat, p < t ∧ T 6 t = nI p) :
    ∃ w' T', f_X6_endBelowEnded T = some (nI w', T') ∧ agr T T' ∧ T' 5 0 = nI (cnt (T' 3) m) ∧ cnt (T' 3) m + w' = cnt (T 3) m ∧ (∀ t, t < m → ((T 6 t ≠ -1 ∧ T' 3 (T 6 t).toNatClampNeg = 0) → T' 3 t = 0) ∧ (¬ (T 6 t ≠ -1 ∧ T' 3 (T 6 t).toNatClampNeg = 0) → T' 3 t = T 3 t)) ∧ (∀ t, m ≤ t → T' 3 t = T 3 t) := by
  have z : ∀ {α : Type} (i : Nat), i < m → ∀ (o : Option α), zix (nI i) 513 o = o := fun i hi o => zix_nI (show i < 513 by omega) (by decide) o
  refine gl_top (fun R t => T 6 t ≠ -1 ∧ R (T 6 t).toNatClampNeg = 0) (fun R R' t ht hs => ?_) (fun n Tc w i => f_X6_endBelowEnded_4 n Tc w i) (fun n Tc w ha => ?_) (fun n Tc w i ha hi hc => ?_) (fun n Tc w i ha hi hc => ?_) h4 hm h5
  · rcases hp t ht with q | ⟨p, q1, q2⟩
    · exact ⟨fun h => absurd q h.1, fun h => absurd q h.1⟩
    · rw [q2, nI_clamp (show p < 2 ^ 31 by omega), hs p q1]
  · show f_X6_endBelowEnded_4 (n + 1) Tc w (nI m) = _
    unfold f_X6_endBelowEnded_4 f_X2_made
    rw [zbs, ha 4 (by decide) (by decide), h4, if_pos (nI_le (Nat.le_refl m) (by omega))]
  · show f_X6_endBelowEnded_4 (n + 1) Tc w (nI i) = f_X6_endBelowEnded_4 n Tc w (nI (i + 1))
    rw [f_X6_endBelowEnded_4, f_X2_made, zbs, ha 4 (by decide) (by decide), h4, if_neg (nI_ge hi (by omega)), z i hi, z i hi, ha 6 (by decide) (by decide), nI_clamp (show i < 2 ^ 31 by omega), nI_1]
    rcases hp i hi with q | ⟨p, q1, q2⟩
    · rw [if_pos q]
    · have hne : ¬ T 6 i = -1 := by rw [q2]; exact nI_nm1 p (by omega)
      have hon : ¬ Tc 3 p = 0 := fun h => hc ⟨hne, by rw [q2, nI_clamp (show p < 2 ^ 31 by omega)]; exact h⟩
      rw [if_neg hne, q2, is_X2 (T := Tc) (by rw [ha 4 (by decide) (by decide)]; exact h4) hm (show p < m by omega), zbs, if_neg hon, if_neg n10]
  · show f_X6_endBelowEnded_4 (n + 1) Tc w (nI i) = (f_X2_end Tc (nI i)).bind (fun r => f_X6_endBelowEnded_4 n r.2 (w + r.1) (nI (i + 1)))
    rw [f_X6_endBelowEnded_4, f_X2_made, zbs, ha 4 (by decide) (by decide), h4, if_neg (nI_ge hi (by omega)), z i hi, z i hi, ha 6 (by decide) (by decide), nI_clamp (show i < 2 ^ 31 by omega), nI_1, if_neg hc.1]
    rcases hp i hi with q | ⟨p, q1, q2⟩
    · exact absurd q hc.1
    · have hon : Tc 3 p = 0 := by
        have h := hc.2
        rw [q2, nI_clamp (show p < 2 ^ 31 by omega)] at h
        exact h
      rw [q2, is_X2 (T := Tc) (by rw [ha 4 (by decide) (by decide)]; exact h4) hm (show p < m by omega), zbs, if_pos hon, if_pos rfl]
theorem eoe {T K : SS} {m g : Nat} (t4 : T 4 0 = nI m) (hm : m ≤ 513) (h4 : K 4 0 = nI g) (hg : g ≤ 513) (h5 : K 5 0 = nI (cnt (K 3) g)) (hp : ∀ t, t < g → ∃ p : Nat, p < m ∧ K 6 t = nI p) :
    ∃ w' K', f_X1_endOfEnded T K = some (nI w', K') ∧ agr K K' ∧ K' 5 0 = nI (cnt (K' 3) g) ∧ cnt (K' 3) g + w' = cnt (K 3) g ∧ (∀ t, t < g → (T 3 (K 6 t).toNatClampNeg = 0 → K' 3 t = 0) ∧ (¬ T 3 (K 6 t).toNatClampNeg = 0 → K' 3 t = K 3 t)) ∧ (∀ t, g ≤ t → K' 3 t = K 3 t) := by
  have z : ∀ {α : Type} (i : Nat), i < g → ∀ (o : Option α), zix (nI i) 513 o = o := fun i hi o => zix_nI (show i < 513 by omega) (by decide) o
  refine gl_top (fun _ t => T 3 (K 6 t).toNatClampNeg = 0) (fun _ _ _ _ _ => Iff.rfl) (fun n Kc w i => f_X1_endOfEnded_4 T n Kc w i) (fun n Kc w ha => ?_) (fun n Kc w i ha hi hc => ?_) (fun n Kc w i ha hi hc => ?_) h4 hg h5
  · show f_X1_endOfEnded_4 T (n + 1) Kc w (nI g) = _
    rw [f_X1_endOfEnded_4, f_X2_made, zbs, ha 4 (by decide) (by decide), h4, if_pos (nI_le (Nat.le_refl g) (by omega))]
  · obtain ⟨p, q1, q2⟩ := hp i hi
    show f_X1_endOfEnded_4 T (n + 1) Kc w (nI i) = f_X1_endOfEnded_4 T n Kc w (nI (i + 1))
    rw [q2, nI_clamp (show p < 2 ^ 31 by omega)] at hc
    rw [f_X1_endOfEnded_4, f_X2_made, zbs, ha 4 (by decide) (by decide), h4, if_neg (nI_ge hi (by omega)), z i hi, ha 6 (by decide) (by decide), nI_clamp (show i < 2 ^ 31 by omega), nI_1, q2, is_X2 t4 hm q1, zbs, if_neg hc, if_neg n10]
  · obtain ⟨p, q1, q2⟩ := hp i hi
    show f_X1_endOfEnded_4 T (n + 1) Kc w (nI i) = (f_X2_end Kc (nI i)).bind (fun r => f_X1_endOfEnded_4 T n r.2 (w + r.1) (nI (i + 1)))
    rw [q2, nI_clamp (show p < 2 ^ 31 by omega)] at hc
    rw [f_X1_endOfEnded_4, f_X2_made, zbs, ha 4 (by decide) (by decide), h4, if_neg (nI_ge hi (by omega)), z i hi, ha 6 (by decide) (by decide), nI_clamp (show i < 2 ^ 31 by omega), nI_1, q2, is_X2 t4 hm q1, zbs, if_pos hc, if_pos rfl]
theorem ebp {K : SS} {g : Nat} {x : Int32} (h4 : K 4 0 = nI g) (hg : g ≤ 513) (h5 : K 5 0 = nI (cnt (K 3) g)) (hp : ∀ t, t < g → ∃ r, f_X4_isBelow (K 7 t) x = some r) :
    ∃ w' K', f_X1_endBelow K x = some (nI w', K') ∧ agr K K' ∧ K' 5 0 = nI (cnt (K' 3) g) ∧ cnt (K' 3) g + w' = cnt (K 3) g ∧ (∀ t, t < g → (f_X4_isBelow (K 7 t) x ≠ some 0 → K' 3 t = 0) ∧ (¬ f_X4_isBelow (K 7 t) x ≠ some 0 → K' 3 t = K 3 t)) ∧ (∀ t, g ≤ t → K' 3 t = K 3 t) := by
  have z : ∀ {α : Type} (i : Nat), i < g → ∀ (o : Option α), zix (nI i) 513 o = o := fun i hi o => zix_nI (show i < 513 by omega) (by decide) o
  refine gl_top (fun _ t => f_X4_isBelow (K 7 t) x ≠ some 0) (fun _ _ _ _ _ => Iff.rfl) (fun n Kc w i => f_X1_endBelow_4 n Kc x w i) (fun n Kc w ha => ?_) (fun n Kc w i ha hi hc => ?_) (fun n Kc w i ha hi hc => ?_) h4 hg h5
  · show f_X1_endBelow_4 (n + 1) Kc x w (nI g) = _
    rw [f_X1_endBelow_4, f_X2_made, zbs, ha 4 (by decide) (by decide), h4, if_pos (nI_le (Nat.le_refl g) (by omega))]
  · obtain ⟨r, q⟩ := hp i hi
    show f_X1_endBelow_4 (n + 1) Kc x w (nI i) = f_X1_endBelow_4 n Kc x w (nI (i + 1))
    have hr : r = 0 := Classical.byContradiction (fun h => hc (by rw [q]; exact fun e => h (Option.some.inj e)))
    rw [f_X1_endBelow_4, f_X2_made, zbs, ha 4 (by decide) (by decide), h4, if_neg (nI_ge hi (by omega)), z i hi, ha 7 (by decide) (by decide), nI_clamp (show i < 2 ^ 31 by omega), nI_1, q, zbs, if_pos hr]
  · obtain ⟨r, q⟩ := hp i hi
    show f_X1_endBelow_4 (n + 1) Kc x w (nI i) = (f_X2_end Kc (nI i)).bind (fun r => f_X1_endBelow_4 n r.2 x (w + r.1) (nI (i + 1)))
    have hr : ¬ r = 0 := fun h => hc (by rw [q, h])
    rw [f_X1_endBelow_4, f_X2_made, zbs, ha 4 (by decide) (by decide), h4, if_neg (nI_ge hi (by omega)), z i hi, ha 7 (by decide) (by decide), nI_clamp (show i < 2 ^ 31 by omega), nI_1, q, zbs, if_neg hr]
/-! the reference's -/
theorem ceaK {S : SS} {g W w : Nat} (h19 : S 19 0 = nI g) (hg : g ≤ 513) (hp : ∀ t, t < g → ∃ p : Nat, p < 520 ∧ S 21 t = nI p) (hw : cnt (S 20) g + w = W) :
    ∃ w' S', f_X8_ceases_76 600 S (nI w) 0 = some (nI w', S') ∧ agm 20 S S' ∧ cnt (S' 20) g + w' = W ∧ (∀ t, 0 ≤ t → t < g → ((S 24 t ≤ S 1 0 ∨ S 12 (S 21 t).toNatClampNeg = 0) → S' 20 t = 0) ∧ (¬ (S 24 t ≤ S 1 0 ∨ S 12 (S 21 t).toNatClampNeg = 0) → S' 20 t = S 20 t)) ∧ (∀ t, (t < 0 ∨ g ≤ t) → S' 20 t = S 20 t) := by
  have z : ∀ {α : Type} (i : Nat), i < g → ∀ (o : Option α), zix (nI i) 520 o = o := fun i hi o => zix_nI (show i < 520 by omega) (by decide) o
  refine hl_all (i0 := 0) (W := W) (fun _ t => S 24 t ≤ S 1 0 ∨ S 12 (S 21 t).toNatClampNeg = 0) (fun _ _ _ _ _ _ => Iff.rfl) (fun n Sc w i => f_X8_ceases_76 n Sc w i) (fun Sc w => some (w, Sc)) (fun n Sc w ha => ?_) (fun n Sc w i ha h0 hi hc => ?_) (fun n Sc w i ha h0 hi hc hd => ?_) (show g ≤ 520 by omega) g 600 0 S w (Nat.zero_add g) (by omega) (Nat.le_refl 0) (fun _ _ => rfl) hw (fun t _ ht => absurd ht (Nat.not_lt_zero t)) (fun _ _ => rfl)
  · show f_X8_ceases_76 (n + 1) Sc w (nI g) = _
    rw [f_X8_ceases_76, ha 19 (by decide), h19, if_pos (nI_le (Nat.le_refl g) (by omega))]
  · obtain ⟨p, p1, p2⟩ := hp i hi
    have zp : ∀ {α : Type} (o : Option α), zix (nI p) 520 o = o := fun o => zix_nI p1 (by decide) o
    show f_X8_ceases_76 (n + 1) Sc w (nI i) = f_X8_ceases_76 n Sc w (nI (i + 1))
    rw [f_X8_ceases_76, ha 19 (by decide), h19, if_neg (nI_ge hi (by omega)), ha 1 (by decide), ha 24 (by decide), ha 21 (by decide), ha 12 (by decide)]
    simp only [z i hi, nI_clamp (show i < 2 ^ 31 by omega), nI_1, p2, zp]
    by_cases h1 : Sc 20 i = 0
    · rw [if_pos h1]
    · have hc := hc.resolve_left h1
      rw [p2] at hc
      rw [if_neg h1, if_neg (fun q => hc (Or.inl q)), if_neg (fun q => hc (Or.inr q))]
  · obtain ⟨p, p1, p2⟩ := hp i hi
    have zp : ∀ {α : Type} (o : Option α), zix (nI p) 520 o = o := fun o => zix_nI p1 (by decide) o
    show f_X8_ceases_76 (n + 1) Sc w (nI i) = f_X8_ceases_76 n (za Sc 20 (nI i) (vp_nar .boolean 0)) (w + 1) (nI (i + 1))
    rw [f_X8_ceases_76, ha 19 (by decide), h19, if_neg (nI_ge hi (by omega)), ha 1 (by decide), ha 24 (by decide), ha 21 (by decide), ha 12 (by decide)]
    simp only [z i hi, nI_clamp (show i < 2 ^ 31 by omega), nI_1, p2, zp]
    rw [p2] at hd
    rw [if_neg hc]
    by_cases h2 : S 24 i ≤ S 1 0
    · rw [if_pos h2]
    · rw [if_neg h2, if_pos (hd.resolve_left h2)]
theorem ceaT {S : SS} {m : Nat} (h11 : S 11 0 = nI m) (hm1 : 1 ≤ m) (hm : m ≤ 513) (hp : ∀ t, 1 ≤ t → t < m → S 13 t = -1 ∨ ∃ p : Nat, p < t ∧ S 13 t = nI p) :
    ∃ w' S', f_X8_ceases S = f_X8_ceases_76 600 S' (nI w') 0 ∧ agm 12 S S' ∧ cnt (S' 12) m + w' = cnt (S 12) m ∧ (∀ t, 1 ≤ t → t < m → ((S 16 t ≤ S 1 0 ∨ (S 13 t ≠ -1 ∧ S' 12 (S 13 t).toNatClampNeg = 0)) → S' 12 t = 0) ∧ (¬ (S 16 t ≤ S 1 0 ∨ (S 13 t ≠ -1 ∧ S' 12 (S 13 t).toNatClampNeg = 0)) → S' 12 t = S 12 t)) ∧ (∀ t, (t < 1 ∨ m ≤ t) → S' 12 t = S 12 t) := by
  have z : ∀ {α : Type} (i : Nat), i < m → ∀ (o : Option α), zix (nI i) 520 o = o := fun i hi o => zix_nI (show i < 520 by omega) (by decide) o
  refine hl_all (i0 := 1) (W := cnt (S 12) m) (fun R t => S 16 t ≤ S 1 0 ∨ (S 13 t ≠ -1 ∧ R (S 13 t).toNatClampNeg = 0)) (fun R R' t h0 ht hs => ?_) (fun n Sc w i => f_X8_ceases_4 n Sc w i) (fun Sc w => f_X8_ceases_76 600 Sc w 0) (fun n Sc w ha => ?_) (fun n Sc w i ha h0 hi hc => ?_) (fun n Sc w i ha h0 hi hc hd => ?_) (show m ≤ 520 by omega) (m - 1) 600 1 S 0 (by omega) (by omega) (Nat.le_refl 1) (fun _ _ => rfl) rfl (fun t h1 ht => absurd ht (by omega)) (fun _ _ => rfl)
  · rcases hp t h0 ht with q | ⟨p, q1, q2⟩
    · exact ⟨fun h => h.imp id (fun z => absurd q z.1), fun h => h.imp id (fun z => absurd q z.1)⟩
    · rw [q2, nI_clamp (show p < 2 ^ 31 by omega), hs p q1]
  · show f_X8_ceases_4 (n + 1) Sc w (nI m) = _
    rw [f_X8_ceases_4, ha 11 (by decide), h11, if_pos (nI_le (Nat.le_refl m) (by omega))]
  · show f_X8_ceases_4 (n + 1) Sc w (nI i) = f_X8_ceases_4 n Sc w (nI (i + 1))
    rw [f_X8_ceases_4, ha 11 (by decide), h11, if_neg (nI_ge hi (by omega)), ha 1 (by decide), ha 13 (by decide), ha 16 (by decide)]
    simp only [z i hi, nI_clamp (show i < 2 ^ 31 by omega), nI_1]
    by_cases h1 : Sc 12 i = 0
    · rw [if_pos h1]
    · have hc := hc.resolve_left h1
      rw [if_neg h1, if_neg (fun q => hc (Or.inl q))]
      rcases hp i h0 hi with q | ⟨p, q1, q2⟩
      · rw [if_pos q]
      · have hne : ¬ S 13 i = -1 := by rw [q2]; exact nI_nm1 p (by omega)
        rw [if_neg hne, q2, zix_nI (show p < 520 by omega) (by decide), nI_clamp (show p < 2 ^ 31 by omega), if_neg (fun h => hc (Or.inr ⟨hne, by rw [q2, nI_clamp (show p < 2 ^ 31 by omega)]; exact h⟩))]
  · show f_X8_ceases_4 (n + 1) Sc w (nI i) = f_X8_ceases_4 n (za Sc 12 (nI i) (vp_nar .boolean 0)) (w + 1) (nI (i + 1))
    rw [f_X8_ceases_4, ha 11 (by decide), h11, if_neg (nI_ge hi (by omega)), ha 1 (by decide), ha 13 (by decide), ha 16 (by decide)]
    simp only [z i hi, nI_clamp (show i < 2 ^ 31 by omega), nI_1]
    rw [if_neg hc]
    by_cases h2 : S 16 i ≤ S 1 0
    · rw [if_pos h2]
    · have hd := hd.resolve_left h2
      rw [if_neg h2, if_neg hd.1]
      rcases hp i h0 hi with q | ⟨p, q1, q2⟩
      · exact absurd q hd.1
      · have h := hd.2
        rw [q2, nI_clamp (show p < 2 ^ 31 by omega)] at h
        rw [q2, zix_nI (show p < 520 by omega) (by decide), nI_clamp (show p < 2 ^ 31 by omega), if_pos h]
