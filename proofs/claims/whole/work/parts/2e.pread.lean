/-! pure: the reads -/
theorem ask_tok {T S : SS} {m : Nat} (h : T 4 0 = nI m) (h2 : S 11 0 = nI m) (hn : m < 2 ^ 31) (x : Int32) : (f_X7_checkToken T x = some (.inl "java/lang/IndexOutOfBoundsException") ∧ f_X8_asks S x = some (0, zs S 0 1)) ∨ ∃ t : Nat, t < m ∧ x = nI t ∧ f_X7_checkToken T x = some (.inr ()) ∧ f_X8_asks S x = some (1, zs S 0 0) := by
  unfold f_X8_asks
  rw [zs_in, zs_in, if_neg n10, if_pos rfl]
  rcases has_tok h h2 hn x with ⟨a1, a2⟩ | ⟨t, ht, q, a1, a2⟩
  · exact Or.inl ⟨a1, by rw [a2, zbs, if_pos rfl]⟩
  · exact Or.inr ⟨t, ht, q, a1, by rw [a2, zbs, if_neg n10]⟩
theorem st_tok {c : Nat} (hc : c < 512) {B P M T K U : SS} {L : SL} {S : SS} {V : SL} (H : Inv c B P M T K U L S V) (x1 : Int32) :
    (f_X7_checkToken T x1 = some (.inl "java/lang/IndexOutOfBoundsException") ∧ f_X8_asks S x1 = some (0, zs S 0 1) ∧ Inv (c + 1) B P M T K U L (zs S 0 1) V) ∨
    (∃ t m : Nat, m ≤ 513 ∧ t < m ∧ T 4 0 = nI m ∧ S 11 0 = nI m ∧ x1 = nI t ∧ f_X7_checkToken T x1 = some (.inr ()) ∧ f_X8_asks S x1 = some (1, zs S 0 0) ∧ Inv (c + 1) B P M T K U L (zs S 0 0) V) := by
  have H0 := H
  obtain ⟨⟨_, _, _, _, RT, _⟩, _, _, _, ⟨m, hm1, hmc, h11, _⟩, _⟩ := H0
  have hth : ∀ v, Inv (c + 1) B P M T K U L (zs S 0 v) V := fun v => H.th (eqr_zs (by omega) eqr_rf)
  rcases ask_tok (RT.1.trans h11) h11 (by omega) x1 with ⟨a1, a2⟩ | ⟨t, ht, q, a1, a2⟩
  · exact Or.inl ⟨a1, a2, hth 1⟩
  · exact Or.inr ⟨t, m, by omega, ht, RT.1.trans h11, h11, q, a1, a2, hth 0⟩
theorem st_isAlive {c : Nat} (hc : c < 512) {B P M T K U : SS} {L : SL} {S : SS} {V : SL} (H : Inv c B P M T K U L S V) (x1 : Int32) :
    (∃ q S', f_X7_isAlive T x1 = some (.inl "java/lang/IndexOutOfBoundsException") ∧ f_X8_isAlive S x1 = some (q, S') ∧ S' 0 0 = 1 ∧ Inv (c + 1) B P M T K U L S' V) ∨
    (∃ q S', f_X7_isAlive T x1 = some (.inr q) ∧ f_X8_isAlive S x1 = some (q, S') ∧ S' 0 0 = 0 ∧ Inv (c + 1) B P M T K U L S' V) := by
  have RT := H.1.2.2.2.2.1
  unfold f_X7_isAlive f_X8_isAlive
  rcases st_tok hc H x1 with ⟨a1, a2, a3⟩ | ⟨t, m, hm, ht, t4, h11, rfl, a1, a2, a3⟩
  · exact Or.inl ⟨_, _, by rw [a1, zth_l], by rw [a2, zbs, if_pos rfl], rfl, a3⟩
  · right
    rw [a1, zth_r, a2, zbs, if_neg n10, is_X2 t4 hm ht, zbs, RT.2.1, zix_nI (show t < 520 by omega) (by decide), nI_clamp (show t < 2 ^ 31 by omega)]
    by_cases h : S 12 t = 0
    · rw [if_pos h, if_pos (show (zs S 0 0) 12 t = 0 from h), zbo_b (Or.inl rfl)]
      exact ⟨0, _, rfl, rfl, rfl, a3⟩
    · rw [if_neg h, if_neg (show ¬ (zs S 0 0) 12 t = 0 from h), zbo_b (Or.inr rfl)]
      exact ⟨1, _, rfl, rfl, rfl, a3⟩
theorem st_parentOf {c : Nat} (hc : c < 512) {B P M T K U : SS} {L : SL} {S : SS} {V : SL} (H : Inv c B P M T K U L S V) (x1 : Int32) :
    (∃ q S', f_X7_parentOf T x1 = some (.inl "java/lang/IndexOutOfBoundsException") ∧ f_X8_parentOf S x1 = some (q, S') ∧ S' 0 0 = 1 ∧ Inv (c + 1) B P M T K U L S' V) ∨
    (∃ q S', f_X7_parentOf T x1 = some (.inr q) ∧ f_X8_parentOf S x1 = some (q, S') ∧ S' 0 0 = 0 ∧ Inv (c + 1) B P M T K U L S' V) := by
  have RT := H.1.2.2.2.2.1
  unfold f_X7_parentOf f_X8_parentOf f_X6_parentAt
  rcases st_tok hc H x1 with ⟨a1, a2, a3⟩ | ⟨t, m, hm, ht, t4, h11, rfl, a1, a2, a3⟩
  · exact Or.inl ⟨_, _, by rw [a1, zth_l], by rw [a2, zbs, if_pos rfl], rfl, a3⟩
  · right
    rw [a1, zth_r, a2, zbs, if_neg n10, has_X2' t4 (by omega) ht, zbs, if_neg n10, zix_nI (show t < 513 by omega) (by decide), zbs, nI_clamp (show t < 2 ^ 31 by omega), zix_nI (show t < 520 by omega) (by decide), RT.2.2.1]
    exact ⟨S 13 t, _, rfl, rfl, rfl, a3⟩
theorem st_endOf {c : Nat} (hc : c < 512) {B P M T K U : SS} {L : SL} {S : SS} {V : SL} (H : Inv c B P M T K U L S V) (x1 : Int32) :
    (∃ q S', f_X7_endOf T x1 = some (.inl "java/lang/IndexOutOfBoundsException") ∧ f_X8_endOf S x1 = some (q, S') ∧ S' 0 0 = 1 ∧ Inv (c + 1) B P M T K U L S' V) ∨
    (∃ q S', f_X7_endOf T x1 = some (.inr q) ∧ f_X8_endOf S x1 = some (q, S') ∧ S' 0 0 = 0 ∧ Inv (c + 1) B P M T K U L S' V) := by
  have RT := H.1.2.2.2.2.1
  unfold f_X7_endOf f_X8_endOf f_X2_endAt
  rcases st_tok hc H x1 with ⟨a1, a2, a3⟩ | ⟨t, m, hm, ht, t4, h11, rfl, a1, a2, a3⟩
  · exact Or.inl ⟨_, _, by rw [a1, zth_l], by rw [a2, zbs, if_pos rfl], rfl, a3⟩
  · right
    rw [a1, zth_r, a2, zbs, if_neg n10, has_X2' t4 (by omega) ht, zbs, if_neg n10, zix_nI (show t < 513 by omega) (by decide), zbs, nI_clamp (show t < 2 ^ 31 by omega), zix_nI (show t < 520 by omega) (by decide), RT.2.2.2.2.2.1]
    exact ⟨S 16 t, _, rfl, rfl, rfl, a3⟩
theorem st_usesLeft {c : Nat} (hc : c < 512) {B P M T K U : SS} {L : SL} {S : SS} {V : SL} (H : Inv c B P M T K U L S V) (x1 : Int32) :
    (∃ q S', f_X7_usesLeft T x1 = some (.inl "java/lang/IndexOutOfBoundsException") ∧ f_X8_usesLeft S x1 = some (q, S') ∧ S' 0 0 = 1 ∧ Inv (c + 1) B P M T K U L S' V) ∨
    (∃ q S', f_X7_usesLeft T x1 = some (.inr q) ∧ f_X8_usesLeft S x1 = some (q, S') ∧ S' 0 0 = 0 ∧ Inv (c + 1) B P M T K U L S' V) := by
  have RT := H.1.2.2.2.2.1
  unfold f_X7_usesLeft f_X8_usesLeft f_X6_usesAt
  rcases st_tok hc H x1 with ⟨a1, a2, a3⟩ | ⟨t, m, hm, ht, t4, h11, rfl, a1, a2, a3⟩
  · exact Or.inl ⟨_, _, by rw [a1, zth_l], by rw [a2, zbs, if_pos rfl], rfl, a3⟩
  · right
    rw [a1, zth_r, a2, zbs, if_neg n10, has_X2' t4 (by omega) ht, zbs, if_neg n10, zix_nI (show t < 513 by omega) (by decide), zbs, nI_clamp (show t < 2 ^ 31 by omega), zix_nI (show t < 520 by omega) (by decide), RT.2.2.2.2.2.2.2]
    exact ⟨S 18 t, _, rfl, rfl, rfl, a3⟩
theorem st_tokens {c : Nat} (hc : c < 512) {B P M T K U : SS} {L : SL} {S : SS} {V : SL} (H : Inv c B P M T K U L S V) : ∃ q S', f_X7_tokens T = some q ∧ f_X8_tokens S = some (q, S') ∧ Inv (c + 1) B P M T K U L S' V := by
  have H0 := H
  obtain ⟨_, _, _, _, ⟨m, hm1, hmc, h11, h12, h13, h14, h16, t5, _⟩, _⟩ := H0
  unfold f_X7_tokens f_X8_tokens f_X2_living
  rw [mny_T (S := zs S 0 0) h11 (by omega), zbs, zbs, t5]
  exact ⟨_, _, rfl, rfl, H.th (eqr_zs (by omega) eqr_rf)⟩
theorem st_credentials {c : Nat} (hc : c < 512) {B P M T K U : SS} {L : SL} {S : SS} {V : SL} (H : Inv c B P M T K U L S V) : ∃ q S', f_X7_credentials K = some q ∧ f_X8_credentials S = some (q, S') ∧ Inv (c + 1) B P M T K U L S' V := by
  have H0 := H
  obtain ⟨_, _, _, _, _, ⟨g, m, hgc, h19, hmc, h11, k5, c40, ho⟩, _⟩ := H0
  unfold f_X7_credentials f_X8_credentials f_X2_living
  rw [mny_C (S := zs S 0 0) h19 (by omega), zbs, zbs, k5]
  exact ⟨_, _, rfl, rfl, H.th (eqr_zs (by omega) eqr_rf)⟩
theorem st_works {c : Nat} (hc : c < 512) {B P M T K U : SS} {L : SL} {S : SS} {V : SL} (H : Inv c B P M T K U L S V) (x1 : Int32) :
    (∃ q S', f_X7_works K x1 = some (.inl "java/lang/IndexOutOfBoundsException") ∧ f_X8_works S x1 = some (q, S') ∧ S' 0 0 = 1 ∧ Inv (c + 1) B P M T K U L S' V) ∨
    (∃ q S', f_X7_works K x1 = some (.inr q) ∧ f_X8_works S x1 = some (q, S') ∧ S' 0 0 = 0 ∧ Inv (c + 1) B P M T K U L S' V) := by
  have H0 := H
  obtain ⟨⟨_, _, _, _, _, RK, _⟩, _, _, _, _, ⟨g, m, hgc, h19, hmc, h11, k5, c40, ho⟩, _⟩ := H0
  have hth : ∀ v, Inv (c + 1) B P M T K U L (zs S 0 v) V := fun v => H.th (eqr_zs (by omega) eqr_rf)
  have k4 : K 4 0 = nI g := RK.1.trans h19
  unfold f_X7_works f_X8_works
  rw [zs_in, zs_in, if_neg n10, if_pos rfl]
  rcases has_cre k4 h19 (by omega) x1 with ⟨a1, a2⟩ | ⟨t, ht, rfl, a1, a2⟩
  · exact Or.inl ⟨_, _, by rw [a1, zth_l], by rw [a2, zbs, if_pos rfl], rfl, hth 1⟩
  · right
    rw [a1, zth_r, a2, zbs, if_neg n10, is_X2 k4 (by omega) ht, zbs, RK.2.1, zix_nI (show t < 520 by omega) (by decide), nI_clamp (show t < 2 ^ 31 by omega)]
    by_cases h : S 20 t = 0
    · rw [if_pos h, if_pos h, zbo_b (Or.inl rfl)]
      exact ⟨0, _, rfl, rfl, rfl, hth 0⟩
    · rw [if_neg h, if_neg h, zbo_b (Or.inr rfl)]
      exact ⟨1, _, rfl, rfl, rfl, hth 0⟩
theorem st_endOfCredential {c : Nat} (hc : c < 512) {B P M T K U : SS} {L : SL} {S : SS} {V : SL} (H : Inv c B P M T K U L S V) (x1 : Int32) :
    (∃ q S', f_X7_endOfCredential K x1 = some (.inl "java/lang/IndexOutOfBoundsException") ∧ f_X8_endOfCredential S x1 = some (q, S') ∧ S' 0 0 = 1 ∧ Inv (c + 1) B P M T K U L S' V) ∨
    (∃ q S', f_X7_endOfCredential K x1 = some (.inr q) ∧ f_X8_endOfCredential S x1 = some (q, S') ∧ S' 0 0 = 0 ∧ Inv (c + 1) B P M T K U L S' V) := by
  have H0 := H
  obtain ⟨⟨_, _, _, _, _, RK, _⟩, _, _, _, _, ⟨g, m, hgc, h19, hmc, h11, k5, c40, ho⟩, _⟩ := H0
  have hth : ∀ v, Inv (c + 1) B P M T K U L (zs S 0 v) V := fun v => H.th (eqr_zs (by omega) eqr_rf)
  have k4 : K 4 0 = nI g := RK.1.trans h19
  unfold f_X7_endOfCredential f_X8_endOfCredential f_X2_endAt
  rw [zs_in, zs_in, if_neg n1le0, if_pos le0_0]
  rcases has_cre k4 h19 (by omega) x1 with ⟨a1, a2⟩ | ⟨t, ht, rfl, a1, a2⟩
  · exact Or.inl ⟨_, _, by rw [a1, zth_l], by rw [a2, zbs, if_pos rfl], rfl, hth 1⟩
  · right
    rw [a1, zth_r, a2, zbs, if_neg n10, has_X2' k4 (by omega) ht, zbs, if_neg n10, zix_nI (show t < 513 by omega) (by decide), zbs, nI_clamp (show t < 2 ^ 31 by omega), zix_nI (show t < 520 by omega) (by decide), RK.2.2.2.2.2.1]
    exact ⟨S 24 t, _, rfl, rfl, rfl, hth 0⟩
theorem co_lp {T K S : SS} {m g u : Nat} (h11 : S 11 0 = nI m) (hm : m ≤ 513) (hu : u < m) (k4 : K 4 0 = nI g) (hg : g ≤ 513) (h19 : S 19 0 = nI g) (q3 : K 3 = S 20) (q6 : K 6 = S 21) (k : Nat) : ∀ (n i : Nat) (Sc : SS) (v : Int32), i + k = g → k < n → (∀ r, r ≠ 0 → Sc r = S r) →
    ∃ w Sc', f_X1_livingOf_4 K n (nI u) v (nI i) = some w ∧ f_X8_credentialsOf_4 n Sc (nI u) v (nI i) = some (w, Sc') ∧ (∀ r, r ≠ 0 → Sc' r = S r) ∧ Sc' 0 0 = 0 := by
  have hask : ∀ Sc : SS, (∀ r, r ≠ 0 → Sc r = S r) → f_X8_asks Sc (nI u) = some (1, zs Sc 0 0) := fun Sc hs => by
    unfold f_X8_asks f_X8_wasMade
    rw [hs 11 (by decide), h11, if_neg (nI_pos (by omega)), if_neg (nI_ge hu (by omega)), zbs, if_neg n10, zs_in, if_pos rfl]
  induction k with
  | zero =>
    intro n i Sc v hi hn hs
    obtain ⟨n, rfl⟩ := zn_s hn
    refine ⟨v, zs Sc 0 0, ?_, ?_, fun r hr => (zs_out _ _ hr).trans (hs r hr), rfl⟩
    · rw [f_X1_livingOf_4, f_X2_made, zbs, k4, if_pos (nI_le (show g ≤ i by omega) (by omega))]
    · rw [f_X8_credentialsOf_4, hask Sc hs, zbs, if_neg n10, show ((1 : Int32), zs Sc 0 0).2 = zs Sc 0 0 from rfl, show (zs Sc 0 0) 19 0 = nI g by rw [zs_out _ _ (by decide), hs 19 (by decide)]; exact h19, if_pos (nI_le (show g ≤ i by omega) (by omega))]
  | succ k ih =>
    intro n i Sc v hi hn hs
    obtain ⟨n, rfl⟩ := zn_s hn
    have hig : i < g := by omega
    have hs' : ∀ r, r ≠ 0 → (zs Sc 0 0) r = S r := fun r hr => (zs_out _ _ hr).trans (hs r hr)
    have z5 : ∀ {α : Type} (o : Option α), zix (nI i) 513 o = o := fun o => zix_nI (show i < 513 by omega) (by decide) o
    have z : ∀ {α : Type} (o : Option α), zix (nI i) 520 o = o := fun o => zix_nI (show i < 520 by omega) (by decide) o
    have cm : (nI i).toNatClampNeg = i := nI_clamp (by omega)
    rw [f_X1_livingOf_4, f_X2_made, zbs, k4, if_neg (nI_ge hig (by omega)), f_X8_credentialsOf_4, hask Sc hs, zbs, if_neg n10, show ((1 : Int32), zs Sc 0 0).2 = zs Sc 0 0 from rfl, hs' 19 (by decide), h19, if_neg (nI_ge hig (by omega)), is_X2 k4 hg hig, hs' 20 (by decide), hs' 21 (by decide), q3, q6]
    simp only [z, z5, cm, zbs, nI_1, Int32.add_zero]
    obtain ⟨w, Sc', e1, e2, e3, e4⟩ := ih n (i + 1) (zs Sc 0 0) v (by omega) (by omega) hs'
    obtain ⟨w2, Sc2, d1, d2, d3, d4⟩ := ih n (i + 1) (zs Sc 0 0) (v + 1) (by omega) (by omega) hs'
    by_cases h1 : S 20 i = 0
    · by_cases h2 : S 21 i = nI u
      · exact ⟨w, Sc', by rw [if_pos h2, if_pos h1, if_pos rfl]; exact e1, by rw [if_pos h1]; exact e2, e3, e4⟩
      · exact ⟨w, Sc', by rw [if_neg h2]; exact e1, by rw [if_pos h1]; exact e2, e3, e4⟩
    · by_cases h2 : S 21 i = nI u
      · exact ⟨w2, Sc2, by rw [if_pos h2, if_neg h1, if_neg n10]; exact d1, by rw [if_neg h1, if_pos h2]; exact d2, d3, d4⟩
      · exact ⟨w, Sc', by rw [if_neg h2]; exact e1, by rw [if_neg h1, if_neg h2]; exact e2, e3, e4⟩
theorem st_credentialsOf {c : Nat} (hc : c < 512) {B P M T K U : SS} {L : SL} {S : SS} {V : SL} (H : Inv c B P M T K U L S V) (x1 : Int32) :
    (∃ q S', f_X7_credentialsOf T K x1 = some (.inl "java/lang/IndexOutOfBoundsException") ∧ f_X8_credentialsOf S x1 = some (q, S') ∧ S' 0 0 = 1 ∧ Inv (c + 1) B P M T K U L S' V) ∨
    (∃ q S', f_X7_credentialsOf T K x1 = some (.inr q) ∧ f_X8_credentialsOf S x1 = some (q, S') ∧ S' 0 0 = 0 ∧ Inv (c + 1) B P M T K U L S' V) := by
  have H0 := H
  obtain ⟨⟨_, _, _, _, RT, RK, _⟩, _, _, _, _, ⟨g, m', hgc, h19, hmc, h11', k5, c40, ho⟩, _⟩ := H0
  unfold f_X7_credentialsOf
  rcases st_tok hc H x1 with ⟨a1, a2, a3⟩ | ⟨t, m, hm, ht, t4, h11, rfl, a1, a2, a3⟩
  · refine Or.inl ⟨0, _, by rw [a1, zth_l], ?_, rfl, a3⟩
    show f_X8_credentialsOf_4 (599 + 1) S x1 0 0 = _
    rw [f_X8_credentialsOf_4, a2, zbs, if_pos rfl]
  · right
    obtain ⟨w, Sc', e1, e2, e3, e4⟩ := co_lp (T := T) h11 hm ht (RK.1.trans h19) (show g ≤ 513 by omega) h19 RK.2.1 RK.2.2.1 g 600 0 S 0 (Nat.zero_add g) (by omega) (fun _ _ => rfl)
    have e1' : f_X1_livingOf K (nI t) = some w := e1
    exact ⟨w, Sc', by rw [a1, zth_r, e1', zbs], e2, e4, H.th (fun r r1 _ => e3 r (by omega))⟩
/-! who hangs below whom -/
theorem bl_no {S Sc : SS} {m u : Nat} {k9 : SS → Int32 → Int32 → Int32 → Option (Int32 × SS)} {v2 v3 : Int32} (hs : Sc 13 = S 13) (hm : m ≤ 513) (hp : ∀ t, t < m → S 13 t = -1 ∨ ∃ p : Nat, p < t ∧ S 13 t = nI p) (hu : u < m) : ∀ (p n : Nat), p < u → p + 1 < n → f_X8_below_42 k9 n Sc (nI u) v2 v3 (nI p) = k9 Sc (nI u) (v2 + 0) (v3 + (-1)) := by
  intro p
  induction p using Nat.strongRecOn with
  | ind p ih =>
    intro n hpu hn
    obtain ⟨n, rfl⟩ := zn_s hn
    rw [f_X8_below_42, if_neg (nI_nm1 p (by omega)), if_neg (nI_ne (by omega) (by omega) (by omega)), zix_nI (show p < 520 by omega) (by decide), nI_clamp (show p < 2 ^ 31 by omega), hs]
    rcases hp p (by omega) with q | ⟨p', q1, q2⟩
    · obtain ⟨n, rfl⟩ := zn_s (show 0 < n by omega)
      rw [q, f_X8_below_42, if_pos rfl, if_neg (fun z => nI_nm1 u (by omega) z.symm)]
    · rw [q2]
      exact ih p' q1 n (by omega) (by omega)
theorem bl_eq {T S Sc : SS} {m u : Nat} {k9 : SS → Int32 → Int32 → Int32 → Option (Int32 × SS)} {v2 v3 : Int32} (hs : Sc 13 = S 13) (t4 : T 4 0 = nI m) (q6 : T 6 = S 13) (hm : m ≤ 513) (hp : ∀ t, t < m → S 13 t = -1 ∨ ∃ p : Nat, p < t ∧ S 13 t = nI p) (hu : u < m) : ∀ (p n1 n2 st : Nat), p < m → p + 1 < n1 → p + 1 < n2 → st + p < 513 →
    ∃ b : Nat, b ≤ 1 ∧ f_X6_hangsBelow_9 T n1 (nI u) (nI p) (nI st) = some (nI b) ∧ f_X8_below_42 k9 n2 Sc (nI u) v2 v3 (nI p) = k9 Sc (nI u) (v2 + nI b) (v3 + (-1)) := by
  intro p
  induction p using Nat.strongRecOn with
  | ind p ih =>
    intro n1 n2 st hpm hn1 hn2 hst
    obtain ⟨n1, rfl⟩ := zn_s hn1
    rw [f_X6_hangsBelow_9, if_neg (show ¬ (513 : Int32) ≤ nI st from nI_ge (b := 513) (by omega) (by decide))]
    by_cases hpu : p ≤ u
    · rw [if_pos (nI_le hpu (by omega))]
      by_cases he : p = u
      · subst he
        obtain ⟨n2, rfl⟩ := zn_s hn2
        refine ⟨1, by omega, by rw [if_pos rfl]; rfl, ?_⟩
        rw [f_X8_below_42, if_neg (nI_nm1 p (by omega)), if_pos rfl, if_pos rfl]
        rfl
      · refine ⟨0, by omega, by rw [if_neg (nI_ne (by omega) (by omega) he)]; rfl, ?_⟩
        exact bl_no hs hm hp hu p n2 (by omega) hn2
    · obtain ⟨n2, rfl⟩ := zn_s hn2
      rw [if_neg (nI_ge (show u < p by omega) (by omega)), f_X6_parentAt, has_X2' t4 (by omega) hpm, zbs, if_neg n10, zix_nI (show p < 513 by omega) (by decide), zbs, nI_clamp (show p < 2 ^ 31 by omega), q6, nI_1, f_X8_below_42, if_neg (nI_nm1 p (by omega)), if_neg (nI_ne (by omega) (by omega) (by omega)), zix_nI (show p < 520 by omega) (by decide), nI_clamp (show p < 2 ^ 31 by omega), hs]
      rcases hp p hpm with q | ⟨p', q1, q2⟩
      · obtain ⟨n1, rfl⟩ := zn_s (show 0 < n1 by omega)
        obtain ⟨n2, rfl⟩ := zn_s (show 0 < n2 by omega)
        have hu1 : ¬ (-1 : Int32) = nI u := fun z => nI_nm1 u (by omega) z.symm
        refine ⟨0, by omega, ?_, ?_⟩
        · rw [q, f_X6_hangsBelow_9, if_neg (show ¬ (513 : Int32) ≤ nI (st + 1) from nI_ge (b := 513) (by omega) (by decide)), if_pos (Int32.le_trans (show (-1 : Int32) ≤ 0 by decide) (nI_pos' (by omega))), if_neg hu1]
          rfl
        · rw [q, f_X8_below_42, if_pos rfl, if_neg hu1]
          rfl
      · rw [q2]
        exact ih p' q1 n1 n2 (st + 1) (by omega) (by omega) (by omega) (by omega)
/-- alive and below u -/
noncomputable def hbl (T S : SS) (u : Nat) (t : Nat) : Int32 := if S 12 t = 0 then 0 else (f_X6_hangsBelow T (nI t) (nI u)).getD 0
theorem hb_eq {T S Sc : SS} {m u t : Nat} {k9 : SS → Int32 → Int32 → Int32 → Option (Int32 × SS)} {v2 v3 : Int32} (hs : Sc 13 = S 13) (t4 : T 4 0 = nI m) (q6 : T 6 = S 13) (hm : m ≤ 513) (hp : ∀ t, t < m → S 13 t = -1 ∨ ∃ p : Nat, p < t ∧ S 13 t = nI p) (hu : u < m) (ht : t < m) :
    ∃ b : Nat, b ≤ 1 ∧ f_X6_hangsBelow T (nI t) (nI u) = some (nI b) ∧ f_X8_below_42 k9 600 Sc (nI u) v2 v3 (S 13 t) = k9 Sc (nI u) (v2 + nI b) (v3 + (-1)) := by
  unfold f_X6_hangsBelow f_X6_parentAt
  rw [has_X2' t4 (by omega) ht, zbs, if_neg n10, zix_nI (show t < 513 by omega) (by decide), zbs, nI_clamp (show t < 2 ^ 31 by omega), q6]
  have hu1 : ¬ (-1 : Int32) = nI u := fun z => nI_nm1 u (by omega) z.symm
  rcases hp t ht with q | ⟨p', q1, q2⟩
  · refine ⟨0, by omega, ?_, ?_⟩
    · rw [q]
      show f_X6_hangsBelow_9 T (599 + 1) (nI u) (-1) 0 = _
      rw [f_X6_hangsBelow_9, if_neg (show ¬ (513 : Int32) ≤ 0 by decide), if_pos (Int32.le_trans (show (-1 : Int32) ≤ 0 by decide) (nI_pos' (by omega))), if_neg hu1]
      rfl
    · rw [q]
      show f_X8_below_42 k9 (599 + 1) Sc (nI u) v2 v3 (-1) = _
      rw [f_X8_below_42, if_pos rfl, if_neg hu1]
      rfl
  · rw [q2]
    exact bl_eq hs t4 q6 hm hp hu p' 600 600 0 (by omega) (by omega) (by omega) (by omega)
theorem lb_lp {T S : SS} {m u : Nat} (t4 : T 4 0 = nI m) (q3 : T 3 = S 12) (q6 : T 6 = S 13) (hm : m ≤ 513) (hp : ∀ t, t < m → S 13 t = -1 ∨ ∃ p : Nat, p < t ∧ S 13 t = nI p) (hu : u < m) (k : Nat) : ∀ n i : Nat, i + k = m → k < n → f_X6_livingBelow_4 T n (nI u) (nI (cnt (hbl T S u) i)) (nI i) = some (nI (cnt (hbl T S u) m)) := by
  induction k with
  | zero =>
    intro n i hi hn
    obtain ⟨n, rfl⟩ := zn_s hn
    have : i = m := by omega
    subst this
    rw [f_X6_livingBelow_4, f_X2_made, zbs, t4, if_pos (nI_le (Nat.le_refl i) (by omega))]
  | succ k ih =>
    intro n i hi hn
    obtain ⟨n, rfl⟩ := zn_s hn
    have him : i < m := by omega
    obtain ⟨b, b1, b2, _⟩ := hb_eq (Sc := S) (k9 := fun _ _ _ _ => none) (v2 := 0) (v3 := 0) rfl t4 q6 hm hp hu him
    have h := ih n (i + 1) (by omega) (by omega)
    simp only [cnt] at h
    rw [f_X6_livingBelow_4, f_X2_made, zbs, t4, if_neg (nI_ge him (by omega)), is_X2 t4 hm him, zbs, q3, nI_1]
    have hv : hbl T S u i = if S 12 i = 0 then 0 else nI b := by
      unfold hbl
      rw [b2]
      rfl
    by_cases h0 : S 12 i = 0
    · rw [if_pos h0] at hv
      rw [hv, if_pos rfl] at h
      rw [if_pos h0, if_pos rfl]
      exact h
    · rw [if_neg h0] at hv
      rw [if_neg h0, if_neg n10, b2, zbs]
      rcases (show b = 0 ∨ b = 1 by omega) with hb | hb
      · subst hb
        rw [hv, if_pos nI_0] at h
        rw [if_pos nI_0]
        exact h
      · subst hb
        rw [hv, if_neg (show ¬ nI 1 = 0 by decide)] at h
        rw [if_neg (show ¬ nI 1 = 0 by decide), nI_1]
        exact h
theorem i32_m1 (x : Int32) : x + (-1) = x - 1 := (Int32.sub_eq_add_neg x 1).symm
theorem lb_md {T S : SS} {m u : Nat} (t4 : T 4 0 = nI m) (h11 : S 11 0 = nI m) (q6 : T 6 = S 13) (hm : m ≤ 513) (hp : ∀ t, t < m → S 13 t = -1 ∨ ∃ p : Nat, p < t ∧ S 13 t = nI p) (hu : u < m) (W : Nat) (i : Nat) : ∀ (n v : Nat) (Sc : SS), i ≤ m → i < n → (∀ r, r ≠ 0 → Sc r = S r) → v + cnt (hbl T S u) i = W →
    ∃ Sc', f_X8_below_9 n Sc (nI u) (nI v) (nI i - 1) = some (nI W, Sc') ∧ (∀ r, r ≠ 0 → Sc' r = S r) ∧ (1 ≤ i → Sc' 0 0 = 0) ∧ (i = 0 → Sc' = Sc) := by
  induction i with
  | zero =>
    intro n v Sc hi hn hs hw
    obtain ⟨n, rfl⟩ := zn_s hn
    have hvw : v = W := by
      simp only [cnt] at hw
      omega
    subst hvw
    refine ⟨Sc, ?_, hs, fun h => absurd h (by omega), fun _ => rfl⟩
    rw [f_X8_below_9, if_pos (show nI 0 - 1 < 0 by decide)]
  | succ i ih =>
    intro n v Sc hi hn hs hw
    obtain ⟨n, rfl⟩ := zn_s hn
    have him : i < m := by omega
    have hs' : ∀ r, r ≠ 0 → (zs Sc 0 0) r = S r := fun r hr => (zs_out _ _ hr).trans (hs r hr)
    have hask : f_X8_asks Sc (nI u) = some (1, zs Sc 0 0) := by
      unfold f_X8_asks f_X8_wasMade
      rw [hs 11 (by decide), h11, if_neg (nI_pos (by omega)), if_neg (nI_ge hu (by omega)), zbs, if_neg n10, zs_in, if_pos rfl]
    rw [nI_m1 (by omega), Nat.add_sub_cancel, f_X8_below_9, if_neg (nI_pos (by omega)), hask, zbs, if_neg n10, zix_nI (show i < 520 by omega) (by decide), zix_nI (show i < 520 by omega) (by decide), nI_clamp (show i < 2 ^ 31 by omega), show ((1 : Int32), zs Sc 0 0).2 = zs Sc 0 0 from rfl, hs' 12 (by decide), hs' 13 (by decide)]
    obtain ⟨b, b1, b2, b3⟩ := hb_eq (Sc := zs Sc 0 0) (k9 := f_X8_below_9 n) (v2 := nI v) (v3 := nI i) (hs' 13 (by decide)) t4 q6 hm hp hu him
    have hv : hbl T S u i = if S 12 i = 0 then 0 else nI b := by
      unfold hbl
      rw [b2]
      rfl
    simp only [cnt] at hw
    have key : ∀ d : Nat, v + d + cnt (hbl T S u) i = W → ∃ Sc', f_X8_below_9 n (zs Sc 0 0) (nI u) (nI v + nI d) (nI i + (-1)) = some (nI W, Sc') ∧ (∀ r, r ≠ 0 → Sc' r = S r) ∧ (1 ≤ i + 1 → Sc' 0 0 = 0) ∧ (i + 1 = 0 → Sc' = Sc) := fun d hd => by
      obtain ⟨Sc', e1, e2, e3, e4⟩ := ih n (v + d) (zs Sc 0 0) (by omega) (by omega) hs' (by omega)
      refine ⟨Sc', by rw [i32_m1, nI_add]; exact e1, e2, fun _ => ?_, fun h => absurd h (by omega)⟩
      rcases (show i = 0 ∨ 1 ≤ i by omega) with h | h
      · rw [e4 h]; rfl
      · exact e3 h
    by_cases h0 : S 12 i = 0
    · rw [if_pos h0] at hv
      rw [hv, if_pos rfl] at hw
      rw [if_pos h0]
      show ∃ Sc', f_X8_below_42 (f_X8_below_9 n) (599 + 1) (zs Sc 0 0) (nI u) (nI v) (nI i) (-1) = _ ∧ _
      rw [f_X8_below_42, if_pos rfl, if_neg (show ¬ (-1 : Int32) = nI u from fun z => nI_nm1 u (by omega) z.symm)]
      exact key 0 (by omega)
    · rw [if_neg h0] at hv
      rw [if_neg h0, b3]
      refine key b ?_
      rcases (show b = 0 ∨ b = 1 by omega) with hb | hb
      · subst hb
        rw [hv, if_pos nI_0] at hw
        omega
      · subst hb
        rw [hv, if_neg (show ¬ nI 1 = 0 by decide)] at hw
        omega
theorem st_below {c : Nat} (hc : c < 512) {B P M T K U : SS} {L : SL} {S : SS} {V : SL} (H : Inv c B P M T K U L S V) (x1 : Int32) :
    (∃ q S', f_X7_below T x1 = some (.inl "java/lang/IndexOutOfBoundsException") ∧ f_X8_below S x1 = some (q, S') ∧ S' 0 0 = 1 ∧ Inv (c + 1) B P M T K U L S' V) ∨
    (∃ q S', f_X7_below T x1 = some (.inr q) ∧ f_X8_below S x1 = some (q, S') ∧ S' 0 0 = 0 ∧ Inv (c + 1) B P M T K U L S' V) := by
  have H0 := H
  obtain ⟨⟨_, _, _, _, RT, RK, _⟩, _, _, _, ⟨m0, hm1, hmc, h110, h12, h13, h14, h16, t5, c30, hp⟩, _⟩ := H0
  have hp0 : ∀ t, t < m0 → S 13 t = -1 ∨ ∃ p : Nat, p < t ∧ S 13 t = nI p := fun t ht => by
    rcases (show t = 0 ∨ 1 ≤ t by omega) with h | h
    · subst h; exact Or.inl h13
    · exact (hp t h ht).1
  unfold f_X7_below f_X8_below f_X6_livingBelow
  rw [h110]
  rcases st_tok hc H x1 with ⟨a1, a2, a3⟩ | ⟨t, m, hm, ht, t4, h11, rfl, a1, a2, a3⟩
  · refine Or.inl ⟨0, _, by rw [a1, zth_l], ?_, rfl, a3⟩
    rw [nI_m1 hm1]
    show f_X8_below_9 (599 + 1) S x1 0 (nI (m0 - 1)) = _
    rw [f_X8_below_9, if_neg (nI_pos (by omega)), a2, zbs, if_pos rfl]
  · right
    have : m0 = m := (nI_eq (by omega) (by omega)).mp (h110.symm.trans h11)
    subst this
    obtain ⟨Sc', e1, e2, e3, _⟩ := lb_md (T := T) (S := S) t4 h11 RT.2.2.1 hm hp0 ht (cnt (hbl T S t) m0) m0 600 0 S (Nat.le_refl _) (by omega) (fun _ _ => rfl) (Nat.zero_add _)
    have e0 := lb_lp (T := T) (S := S) t4 RT.2.1 RT.2.2.1 hm hp0 ht m0 600 0 (Nat.zero_add _) (by omega)
    refine ⟨nI (cnt (hbl T S t) m0), Sc', ?_, e1, e3 hm1, H.th (fun r r1 _ => e2 r (by omega))⟩
    rw [a1, zth_r, show f_X6_livingBelow_4 T 600 (nI t) 0 0 = some (nI (cnt (hbl T S t) m0)) from e0, zbs]
