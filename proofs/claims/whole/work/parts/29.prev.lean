/-! pure: revoke, revokeAlone, pass, revokeBelow -/
theorem Inv.wrt {c c' : Nat} {B P M T K U : SS} {L : SL} {S : SS} {V : SL} (hc : c < 512) (H : Inv c B P M T K U L S V) {B' T' K' S' : SS} (hc' : c' ≤ c + 1) (hB : B' 5 0 = S' 1 0) (hT : RTok T' S') (hK : RCre K' S') (i1 : ITim c' S') (i4 : ITok c' T' S') (i5 : ICre c' K' S') (q : eqr 2 10 S S') (qa : eqr 26 29 S S') (a b d t : Int32) (ht : S' 1 0 = t) :
    ∃ U' S'' L', f_X0_write U L a b d t = some (U', L') ∧ f_X8_writes S' V a b d = some (S'', L') ∧ eqr 0 25 S' S'' ∧ Inv (c + 1) B' P M T' K' U' L' S'' L' := by
  obtain ⟨⟨_, hL, h3, h4, _, _, h7⟩, _, j2, j3, _, _, ⟨e, e1, e2⟩⟩ := H
  have e2' : S' 26 0 = nI e := by rw [qa 26 (by omega) (by omega)]; exact e2
  obtain ⟨U', S'', L', w1, w2, w3, w4, w5⟩ := wr (h7.of qa) (V := V) e2' (show e < 513 by omega) a b d t ht
  refine ⟨U', S'', L', by rw [hL]; exact w1, w2, w4, ⟨?_, rfl, (h3.of (eqr_sub q (by omega) (by omega))).of (eqr_sub w4 (by omega) (by omega)), (h4.of (eqr_sub q (by omega) (by omega))).of (eqr_sub w4 (by omega) (by omega)), hT.of (eqr_sub w4 (by omega) (by omega)), hK.of (eqr_sub w4 (by omega) (by omega)), w3⟩, i1.of (w4 1 (by omega) (by omega)) hc', (j2.of (eqr_sub q (by omega) (by omega))).of (eqr_sub w4 (by omega) (by omega)), (j3.of (eqr_sub q (by omega) (by omega))).of (eqr_sub w4 (by omega) (by omega)), i4.of (w4 1 (by omega) (by omega)) (eqr_sub w4 (by omega) (by omega)) hc', i5.of (w4 1 (by omega) (by omega)) (eqr_sub w4 (by omega) (by omega)) hc', ⟨e + 1, by omega, w5⟩⟩
  rw [w4 1 (by omega) (by omega)]
  exact hB
theorem has_tok {T S : SS} {m : Nat} (h : T 4 0 = nI m) (h2 : S 11 0 = nI m) (hn : m < 2 ^ 31) (x : Int32) : (f_X7_checkToken T x = some (.inl "java/lang/IndexOutOfBoundsException") ∧ f_X8_wasMade S x = some 0) ∨ ∃ t : Nat, t < m ∧ x = nI t ∧ f_X7_checkToken T x = some (.inr ()) ∧ f_X8_wasMade S x = some 1 := by
  unfold f_X7_checkToken f_X2_has f_X8_wasMade
  rw [h, h2]
  rcases pk_ix x hn with q | q | ⟨j, hj, q⟩
  · exact Or.inl ⟨by rw [if_pos q, zbs, if_pos rfl], if_pos q⟩
  · by_cases q0 : x < 0
    · exact Or.inl ⟨by rw [if_pos q0, zbs, if_pos rfl], if_pos q0⟩
    · exact Or.inl ⟨by rw [if_neg q0, if_pos q, zbs, if_pos rfl], by rw [if_neg q0, if_pos q]⟩
  · refine Or.inr ⟨j, hj, q, ?_, ?_⟩
    · rw [q, if_neg (nI_pos (by omega)), if_neg (nI_ge hj hn), zbs, if_neg n10]
    · rw [q, if_neg (nI_pos (by omega)), if_neg (nI_ge hj hn)]
theorem alv_tok {T S : SS} {m t : Nat} (h4 : T 4 0 = nI m) (hm : m ≤ 513) (h3 : T 3 = S 12) (ht : t < m) : (S 12 t = 0 ∧ f_X7_checkAliveToken T (nI t) = some (.inl "java/lang/IllegalStateException")) ∨ (S 12 t ≠ 0 ∧ f_X7_checkAliveToken T (nI t) = some (.inr ())) := by
  unfold f_X7_checkAliveToken
  rw [is_X2 h4 hm ht, zbs, h3]
  by_cases h : S 12 t = 0
  · exact Or.inl ⟨h, by rw [if_pos h, if_pos rfl]⟩
  · exact Or.inr ⟨h, by rw [if_neg h, if_neg n10]⟩
/-- a token that may be ended: refused by both, or alive and not the root -/
theorem end_tok {T S : SS} {m : Nat} (h4 : T 4 0 = nI m) (h11 : S 11 0 = nI m) (hm : m ≤ 513) (h3 : T 3 = S 12) (x : Int32) :
    (f_X7_checkToken T x = some (.inl "java/lang/IndexOutOfBoundsException") ∧ f_X8_asksLiving S x = some (zs S 0 1)) ∨
    (f_X7_checkToken T x = some (.inr ()) ∧ f_X7_checkEndingToken T x = some (.inl "java/lang/IllegalStateException") ∧ f_X8_asksLiving S x = some (zs S 0 2)) ∨
    (∃ t : Nat, 1 ≤ t ∧ t < m ∧ x = nI t ∧ S 12 t ≠ 0 ∧ f_X7_checkToken T x = some (.inr ()) ∧ f_X7_checkEndingToken T x = some (.inr ()) ∧ f_X8_asksLiving S x = some (zs S 0 0)) := by
  unfold f_X8_asksLiving f_X7_checkEndingToken
  rcases has_tok h4 h11 (by omega) x with ⟨a1, a2⟩ | ⟨t, ht, rfl, a1, a2⟩
  · exact Or.inl ⟨a1, by rw [a2, zbs, if_pos rfl]⟩
  · right
    rw [a2, zbs, if_neg n10]
    by_cases h0 : t = 0
    · subst h0
      exact Or.inl ⟨a1, by rw [if_pos nI_0], by rw [if_pos nI_0]⟩
    · rw [if_neg (nI_ne0 (by omega) (by omega)), if_neg (nI_ne0 (by omega) (by omega)), zix_nI (show t < 520 by omega) (by decide), nI_clamp (show t < 2 ^ 31 by omega)]
      rcases alv_tok h4 hm h3 ht with ⟨b1, b2⟩ | ⟨b1, b2⟩
      · exact Or.inl ⟨a1, by rw [b2, zth_l], by rw [if_pos b1]⟩
      · exact Or.inr ⟨t, by omega, ht, rfl, b1, a1, by rw [b2, zth_r], by rw [if_neg b1]⟩
/-- a token ends, and what hangs on it -/
theorem etk {c m t : Nat} {T K S : SS} (hc : c < 512) (RT : RTok T S) (RK : RCre K S) (IT : ITok c T S) (IK : ICre c K S) (h11 : S 11 0 = nI m) (ht1 : 1 ≤ t) (ht : t < m) (hm' : m < 2 ^ 31) (hal : S 12 t ≠ 0) :
    ∃ w T1 T' K' S', f_X2_end T (nI t) = some (1, T1) ∧ f_X7_endWhatHungOnTokens T1 K = some (nI w, T', K') ∧ f_X8_ceases (za S 12 (nI t) (vp_nar .boolean 0)) = some (nI w, S') ∧ (∀ j, j ≠ 12 → j ≠ 20 → S' j = S j) ∧ RTok T' S' ∧ RCre K' S' ∧ ITok c T' S' ∧ ICre c K' S' := by
  obtain ⟨m0, hm1, hmc, g11, h12, h13, h14, h16, t5, c30, hp⟩ := IT
  have : m0 = m := (nI_eq (by omega) hm').mp (g11.symm.trans h11)
  subst this
  obtain ⟨g, m2, hgc, h19, hm2, g11', k5, c40, ho⟩ := IK
  have : m2 = m0 := (nI_eq (by omega) hm').mp (g11'.symm.trans h11)
  subst this
  have t4 : T 4 0 = nI m2 := RT.1.trans h11
  obtain ⟨d, T1, e1, e2, e3, e4, e5, e6⟩ := endL t4 (show m2 ≤ 513 by omega) ht (by rw [RT.2.1]; exact t5)
  have hd : d = 1 := e6 (by rw [RT.2.1]; exact hal)
  subst hd
  have s12 : (za S 12 (nI t) (vp_nar .boolean 0)) 12 = upd (S 12) t 0 := by rw [za_nI S 12 (by omega), vn0]
  have ts : T1 3 = (za S 12 (nI t) (vp_nar .boolean 0)) 12 := by rw [e2, s12, RT.2.1]
  have hS : ∀ j, j ≠ 12 → (za S 12 (nI t) (vp_nar .boolean 0)) j = S j := fun j hj => za_out S _ _ hj
  have RT0 : RTk0 T1 (za S 12 (nI t) (vp_nar .boolean 0)) := RT.z.of e3 (fun j j1 _ => hS j j1)
  have RK0 : RCr0 K (za S 12 (nI t) (vp_nar .boolean 0)) := RK.z.of (fun _ _ _ => rfl) (fun j j1 _ => hS j j1)
  obtain ⟨w, w', T', K', S', f1, f2, f3, f4, f5, f6, f7, f8, f9⟩ := cea (c := c) (m := m2) (g := g) RT0 RK0 hm1 hmc (by omega) hgc (by omega) h11 h19 (by rw [s12, pk_un (by omega)]; exact h12) h13 h14 h16 (fun s s1 s2 => (hp s s1 s2).1) (fun j hj => ⟨(ho j hj).1, (ho j hj).2.1⟩) (by rw [← ts]; rw [RT.2.1] at e5; omega) c40 e4 (by rw [RK.2.1]; exact k5)
    (fun s s1 s2 => ⟨fun hD => by
        rw [ts, s12]
        by_cases hst : s = t
        · rw [hst]; exact pk_us
        · rw [pk_un hst]
          exact Classical.byContradiction (fun h => i32_gt ((hp s s1 s2).2 h).1 hD), fun _ => by rw [ts]⟩)
    (fun s _ => by rw [ts])
    (fun j hj => ⟨fun hD => by
        rw [RK.2.1]
        exact Classical.byContradiction (fun h => i32_gt ((ho j hj).2.2 h).1 hD), fun _ => by rw [RK.2.1]; rfl⟩)
    (fun j _ => by rw [RK.2.1]; rfl)
  have hk : (za S 12 (nI t) (vp_nar .boolean 0)) 20 = K 3 := by rw [RK.2.1]; rfl
  rw [hk, ← ts] at f9
  have hww : w' = w := by omega
  subst hww
  exact ⟨w', T1, T', K', S', e1, f1, f2, fun j j1 j2 => (f3 j j1 j2).trans (hS j j1), f4, f5, f6, f7⟩
theorem ee01 : ¬ ((2 : Int32) ≤ 0) := by decide
theorem n21 : ¬ ((2 : Int32) = 1) := by decide
theorem st_revoke {c : Nat} (hc : c < 512) {B P M T K U : SS} {L : SL} {S : SS} {V : SL} (H : Inv c B P M T K U L S V) (x1 : Int32) :
    (∃ E cd q S', f_X7_revoke B T K U L x1 = some (.inl E) ∧ (E = "java/lang/IndexOutOfBoundsException" ∧ cd = 1 ∨ E = "java/lang/IllegalStateException" ∧ cd = 2) ∧ f_X8_revoke S V x1 = some (q, S', V) ∧ S' 0 0 = cd ∧ Inv (c + 1) B P M T K U L S' V) ∨
    (∃ q T' K' U' L' S', f_X7_revoke B T K U L x1 = some (.inr (q, T', K', U', L')) ∧ f_X8_revoke S V x1 = some (q, S', L') ∧ S' 0 0 = 0 ∧ Inv (c + 1) B P M T' K' U' L' S' L') := by
  have H0 := H
  obtain ⟨⟨hB, _, _, _, RT, RK, _⟩, i1, _, _, IT, IK, _⟩ := H0
  have hth : ∀ v, Inv (c + 1) B P M T K U L (zs S 0 v) V := fun v => H.th (eqr_zs (by omega) eqr_rf)
  have IT0 := IT
  obtain ⟨m, hm1, hmc, h11, _⟩ := IT0
  unfold f_X7_revoke f_X8_revoke f_X7_endToken
  rcases end_tok (RT.1.trans h11) h11 (by omega) RT.2.1 x1 with ⟨a1, a2⟩ | ⟨a1, a2, a3⟩ | ⟨t, t1, t2, rfl, t3, a1, a2, a3⟩
  · exact Or.inl ⟨_, 1, _, _, by rw [a1, zth_l], Or.inl ⟨rfl, rfl⟩, by rw [a2, zbs, zs_in, if_neg n1le0], rfl, hth 1⟩
  · exact Or.inl ⟨_, 2, _, _, by rw [a1, zth_r, a2, zth_l], Or.inr ⟨rfl, rfl⟩, by rw [a3, zbs, zs_in, if_neg n2le0], rfl, hth 2⟩
  · right
    obtain ⟨w, T1, T', K', S', f1, f2, f3, f4, f5, f6, f7, f8⟩ := etk (S := zs S 0 0) hc (RT.of (eqr_zs (by omega) eqr_rf)) (RK.of (eqr_zs (by omega) eqr_rf)) (IT.of rfl (eqr_zs (by omega) eqr_rf) (Nat.le_refl c)) (IK.of rfl (eqr_zs (by omega) eqr_rf) (Nat.le_refl c)) h11 t1 t2 (by omega) t3
    have hr : ∀ j, j ≠ 0 → j ≠ 12 → j ≠ 20 → S' j = S j := fun j j0 j1 j2 => (f4 j j1 j2).trans (zs_out S 0 j0)
    have q1 : S' 1 = S 1 := hr 1 (by decide) (by decide) (by decide)
    obtain ⟨U', S'', L', w1, w2, w3, w4⟩ := H.wrt hc (B' := B) (c' := c) (by omega) (by rw [q1]; exact hB) f5 f6 (i1.of q1 (Nat.le_refl c)) f7 f8 (fun j j1 j2 => hr j (by omega) (by omega) (by omega)) (fun j j1 j2 => hr j (by omega) (by omega) (by omega)) 4 (nI t) (1 + nI w) (B 5 0) (by rw [q1]; exact hB.symm)
    refine ⟨1 + nI w, T', K', U', L', S'', ?_, ?_, ?_, w4⟩
    · rw [a1, zth_r, a2, zth_r, f1, zbs]
      simp only [f2, zbs, w1]
    · rw [a3, zbs, zs_in, if_pos le0_0, zix_nI (show t < 520 by omega) (by decide), f3, zbs]
      simp only [w2, zbs]
    · rw [w3 0 (by omega) (by omega), f4 0 (by decide) (by decide)]
      rfl
theorem fcl {T : SS} {m : Nat} {x : Int32} (h4 : T 4 0 = nI m) (hm : m ≤ 513) (k : Nat) : ∀ (n i : Nat) (Tc : SS), i + k = m → k < n → (∀ r, r ≠ 6 → Tc r = T r) → (∀ t, Tc 6 t = if t < i ∧ T 6 t = x ∧ T 3 t ≠ 0 then -1 else T 6 t) →
    ∃ T', f_X6_freeChildren_2 n Tc x (nI i) = some T' ∧ (∀ r, r ≠ 6 → T' r = T r) ∧ (∀ t, T' 6 t = if t < m ∧ T 6 t = x ∧ T 3 t ≠ 0 then -1 else T 6 t) := by
  induction k with
  | zero =>
    intro n i Tc hi hn ha h6
    obtain ⟨n, rfl⟩ := zn_s hn
    have : i = m := by omega
    subst this
    refine ⟨Tc, ?_, ha, h6⟩
    rw [f_X6_freeChildren_2, f_X2_made, zbs, ha 4 (by decide), h4, if_pos (nI_le (Nat.le_refl i) (by omega))]
  | succ k ih =>
    intro n i Tc hi hn ha h6
    obtain ⟨n, rfl⟩ := zn_s hn
    have him : i < m := by omega
    have z : ∀ {α : Type} (o : Option α), zix (nI i) 513 o = o := fun o => zix_nI (show i < 513 by omega) (by decide) o
    have h6i : Tc 6 i = T 6 i := by rw [h6 i, if_neg (fun q => absurd q.1 (Nat.lt_irrefl i))]
    rw [f_X6_freeChildren_2, f_X2_made, zbs, ha 4 (by decide), h4, if_neg (nI_ge him (by omega)), z, z, nI_clamp (show i < 2 ^ 31 by omega), h6i, is_X2 (T := Tc) (by rw [ha 4 (by decide)]; exact h4) hm him, zbs, ha 3 (by decide), nI_1]
    have hsame : ¬ (T 6 i = x ∧ T 3 i ≠ 0) → ∀ t, Tc 6 t = if t < i + 1 ∧ T 6 t = x ∧ T 3 t ≠ 0 then -1 else T 6 t := by
      intro hno t
      rw [h6 t]
      by_cases hti : t = i
      · subst hti
        rw [if_neg (fun q => hno q.2), if_neg (fun q => hno q.2)]
      · by_cases hq : t < i ∧ T 6 t = x ∧ T 3 t ≠ 0
        · rw [if_pos hq, if_pos ⟨by omega, hq.2⟩]
        · rw [if_neg hq, if_neg (fun q => hq ⟨by omega, q.2⟩)]
    by_cases h1 : T 6 i = x
    · rw [if_pos h1]
      by_cases h2 : T 3 i = 0
      · rw [if_pos h2, if_pos rfl]
        exact ih n (i + 1) Tc (by omega) (by omega) ha (hsame (fun q => q.2 h2))
      · rw [if_neg h2, if_neg n10]
        refine ih n (i + 1) (za Tc 6 (nI i) (-1)) (by omega) (by omega) (fun r hr => (za_out Tc _ _ hr).trans (ha r hr)) (fun t => ?_)
        rw [za_nI Tc 6 (by omega)]
        by_cases hti : t = i
        · subst hti
          rw [pk_us, if_pos ⟨by omega, h1, h2⟩]
        · rw [pk_un hti, h6 t]
          by_cases hq : t < i ∧ T 6 t = x ∧ T 3 t ≠ 0
          · rw [if_pos hq, if_pos ⟨by omega, hq.2⟩]
          · rw [if_neg hq, if_neg (fun q => hq ⟨by omega, q.2⟩)]
    · rw [if_neg h1]
      exact ih n (i + 1) Tc (by omega) (by omega) ha (hsame (fun q => h1 q.1))
theorem ral {S : SS} {V : SL} {m : Nat} {x : Int32} (h11 : S 11 0 = nI m) (hm : m ≤ 513) (k : Nat) : ∀ (n i : Nat) (Sc : SS), i + k = m → k < n → (∀ r, r ≠ 13 → Sc r = S r) → (∀ t, Sc 13 t = if 1 ≤ t ∧ t < i ∧ S 13 t = x ∧ S 12 t ≠ 0 then -1 else S 13 t) → 1 ≤ i →
    ∃ S', f_X8_revokeAlone_16 n Sc V x (nI i) = zix x 520 ((f_X8_ceases (za S' 12 x (vp_nar .boolean 0))).bind (fun r5 => (f_X8_writes r5.2 V 4 x (1 + r5.1)).bind (fun r6 => some ((1 + r5.1), r6.1, r6.2)))) ∧ (∀ r, r ≠ 13 → S' r = S r) ∧ (∀ t, S' 13 t = if 1 ≤ t ∧ t < m ∧ S 13 t = x ∧ S 12 t ≠ 0 then -1 else S 13 t) := by
  induction k with
  | zero =>
    intro n i Sc hi hn ha h6 h1
    obtain ⟨n, rfl⟩ := zn_s hn
    have : i = m := by omega
    subst this
    refine ⟨Sc, ?_, ha, h6⟩
    rw [f_X8_revokeAlone_16, ha 11 (by decide), h11, if_pos (nI_le (Nat.le_refl i) (by omega))]
  | succ k ih =>
    intro n i Sc hi hn ha h6 h1i
    obtain ⟨n, rfl⟩ := zn_s hn
    have him : i < m := by omega
    have h6i : Sc 13 i = S 13 i := by rw [h6 i, if_neg (fun q => absurd q.2.1 (Nat.lt_irrefl i))]
    have z : ∀ {α : Type} (o : Option α), zix (nI i) 520 o = o := fun o => zix_nI (show i < 520 by omega) (by decide) o
    rw [f_X8_revokeAlone_16, ha 11 (by decide), h11, if_neg (nI_ge him (by omega)), ha 12 (by decide)]
    simp only [z, nI_clamp (show i < 2 ^ 31 by omega), h6i, nI_1]
    have hsame : ¬ (S 13 i = x ∧ S 12 i ≠ 0) → ∀ t, (za Sc 13 (nI i) (S 13 i)) 13 t = if 1 ≤ t ∧ t < i + 1 ∧ S 13 t = x ∧ S 12 t ≠ 0 then -1 else S 13 t := by
      intro hno t
      rw [za_nI Sc 13 (by omega)]
      by_cases hti : t = i
      · subst hti
        rw [pk_us, if_neg (fun q => hno q.2.2)]
      · rw [pk_un hti, h6 t]
        by_cases hq : 1 ≤ t ∧ t < i ∧ S 13 t = x ∧ S 12 t ≠ 0
        · rw [if_pos hq, if_pos ⟨hq.1, by omega, hq.2.2⟩]
        · rw [if_neg hq, if_neg (fun q => hq ⟨q.1, by omega, q.2.2⟩)]
    by_cases h2 : S 12 i = 0
    · rw [if_pos h2]
      exact ih n (i + 1) (za Sc 13 (nI i) (S 13 i)) (by omega) (by omega) (fun r hr => (za_out Sc _ _ hr).trans (ha r hr)) (hsame (fun q => q.2 h2)) (by omega)
    · rw [if_neg h2]
      by_cases h1 : S 13 i = x
      · rw [if_pos h1]
        refine ih n (i + 1) (za Sc 13 (nI i) (-1)) (by omega) (by omega) (fun r hr => (za_out Sc _ _ hr).trans (ha r hr)) (fun t => ?_) (by omega)
        rw [za_nI Sc 13 (by omega)]
        by_cases hti : t = i
        · subst hti
          rw [pk_us, if_pos ⟨h1i, by omega, h1, h2⟩]
        · rw [pk_un hti, h6 t]
          by_cases hq : 1 ≤ t ∧ t < i ∧ S 13 t = x ∧ S 12 t ≠ 0
          · rw [if_pos hq, if_pos ⟨hq.1, by omega, hq.2.2⟩]
          · rw [if_neg hq, if_neg (fun q => hq ⟨q.1, by omega, q.2.2⟩)]
      · rw [if_neg h1]
        exact ih n (i + 1) (za Sc 13 (nI i) (S 13 i)) (by omega) (by omega) (fun r hr => (za_out Sc _ _ hr).trans (ha r hr)) (hsame (fun q => h1 q.1)) (by omega)
theorem st_revokeAlone {c : Nat} (hc : c < 512) {B P M T K U : SS} {L : SL} {S : SS} {V : SL} (H : Inv c B P M T K U L S V) (x1 : Int32) :
    (∃ E cd q S', f_X7_revokeAlone B T K U L x1 = some (.inl E) ∧ (E = "java/lang/IndexOutOfBoundsException" ∧ cd = 1 ∨ E = "java/lang/IllegalStateException" ∧ cd = 2) ∧ f_X8_revokeAlone S V x1 = some (q, S', V) ∧ S' 0 0 = cd ∧ Inv (c + 1) B P M T K U L S' V) ∨
    (∃ q T' K' U' L' S', f_X7_revokeAlone B T K U L x1 = some (.inr (q, T', K', U', L')) ∧ f_X8_revokeAlone S V x1 = some (q, S', L') ∧ S' 0 0 = 0 ∧ Inv (c + 1) B P M T' K' U' L' S' L') := by
  have H0 := H
  obtain ⟨⟨hB, _, _, _, RT, RK, _⟩, i1, _, _, IT, IK, _⟩ := H0
  have hth : ∀ v, Inv (c + 1) B P M T K U L (zs S 0 v) V := fun v => H.th (eqr_zs (by omega) eqr_rf)
  have IT0 := IT
  obtain ⟨m, hm1, hmc, h11, h12, h13, h14, h16, t5, c30, hp⟩ := IT0
  unfold f_X7_revokeAlone f_X8_revokeAlone f_X7_endToken
  rcases end_tok (RT.1.trans h11) h11 (by omega) RT.2.1 x1 with ⟨a1, a2⟩ | ⟨a1, a2, a3⟩ | ⟨t, t1, t2, rfl, t3, a1, a2, a3⟩
  · exact Or.inl ⟨_, 1, _, _, by rw [a1, zth_l], Or.inl ⟨rfl, rfl⟩, by rw [a2, zbs, zs_in, if_neg n1le0], rfl, hth 1⟩
  · exact Or.inl ⟨_, 2, _, _, by rw [a1, zth_r, a2, zth_l], Or.inr ⟨rfl, rfl⟩, by rw [a3, zbs, zs_in, if_neg n2le0], rfl, hth 2⟩
  · right
    obtain ⟨T0, u1, u2, u3⟩ := fcl (T := T) (m := m) (x := nI t) (RT.1.trans h11) (by omega) m 600 0 T (Nat.zero_add m) (by omega) (fun _ _ => rfl) (fun s => by rw [if_neg (fun q => absurd q.1 (Nat.not_lt_zero s))])
    obtain ⟨S0, v1, v2, v3⟩ := ral (S := zs S 0 0) (V := V) (m := m) (x := nI t) h11 (by omega) (m - 1) 600 1 (zs S 0 0) (by omega) (by omega) (fun _ _ => rfl) (fun s => by rw [if_neg (fun q => absurd q.2.1 (by have := q.1; omega))]) (Nat.le_refl 1)
    have hu1 : f_X6_freeChildren T (nI t) = some T0 := u1
    have hv1 : f_X8_revokeAlone_16 600 (zs S 0 0) V (nI t) 1 = _ := v1
    have v3' : ∀ s, S0 13 s = if 1 ≤ s ∧ s < m ∧ S 13 s = nI t ∧ S 12 s ≠ 0 then -1 else S 13 s := v3
    have hne0 : ¬ (-1 : Int32) = nI t := fun q => nI_nm1 t (by omega) q.symm
    have h613 : T0 6 = S0 13 := by
      funext s
      rw [u3 s, v3' s, RT.2.2.1, RT.2.1]
      rcases (show s = 0 ∨ 1 ≤ s by omega) with h | h
      · subst h
        rw [h13, if_neg (fun q => hne0 q.2.1), if_neg (fun q => hne0 q.2.2.1)]
      · by_cases hq : s < m ∧ S 13 s = nI t ∧ S 12 s ≠ 0
        · rw [if_pos hq, if_pos ⟨h, hq⟩]
        · rw [if_neg hq, if_neg (fun q => hq q.2)]
    have hS0 : ∀ j, j ≠ 0 → j ≠ 13 → S0 j = S j := fun j j0 j1 => (v2 j j1).trans (zs_out S 0 j0)
    have RT0 : RTok T0 S0 := by
      obtain ⟨r1, r2, r3, r4, r5, r6, r7, r8⟩ := RT
      refine ⟨?_, ?_, h613, ?_, ?_, ?_, ?_, ?_⟩
      · rw [u2 4 (by decide), hS0 11 (by decide) (by decide)]; exact r1
      · rw [u2 3 (by decide), hS0 12 (by decide) (by decide)]; exact r2
      · rw [u2 7 (by decide), hS0 14 (by decide) (by decide)]; exact r4
      · rw [u2 0 (by decide), hS0 15 (by decide) (by decide)]; exact r5
      · rw [u2 1 (by decide), hS0 16 (by decide) (by decide)]; exact r6
      · rw [u2 2 (by decide), hS0 17 (by decide) (by decide)]; exact r7
      · rw [u2 8 (by decide), hS0 18 (by decide) (by decide)]; exact r8
    have RK0 : RCre K S0 := RK.of (fun j j1 j2 => hS0 j (by omega) (by omega))
    have IT1 : ITok c T0 S0 := by
      refine ⟨m, hm1, hmc, ?_, ?_, ?_, ?_, ?_, ?_, by rw [hS0 12 (by decide) (by decide)]; exact c30, ?_⟩
      · rw [hS0 11 (by decide) (by decide)]; exact h11
      · rw [hS0 12 (by decide) (by decide)]; exact h12
      · rw [v3' 0, if_neg (fun q => absurd q.1 (by omega))]; exact h13
      · rw [hS0 14 (by decide) (by decide)]; exact h14
      · rw [hS0 16 (by decide) (by decide)]; exact h16
      · rw [hS0 12 (by decide) (by decide), u2 5 (by decide)]; exact t5
      · intro s s1 s2
        rw [hS0 12 (by decide) (by decide), hS0 1 (by decide) (by decide), hS0 16 (by decide) (by decide), v3' s]
        by_cases hq : 1 ≤ s ∧ s < m ∧ S 13 s = nI t ∧ S 12 s ≠ 0
        · rw [if_pos hq]
          exact ⟨Or.inl rfl, fun hl => ⟨((hp s s1 s2).2 hl).1, Or.inl rfl⟩⟩
        · rw [if_neg hq]
          exact hp s s1 s2
    have IK1 : ICre c K S0 := by
      obtain ⟨g, m', g1, g2, g3, g4, g5, c40, g6⟩ := IK
      refine ⟨g, m', g1, ?_, g3, ?_, ?_, by rw [hS0 20 (by decide) (by decide)]; exact c40, ?_⟩
      · rw [hS0 19 (by decide) (by decide)]; exact g2
      · rw [hS0 11 (by decide) (by decide)]; exact g4
      · rw [hS0 20 (by decide) (by decide)]; exact g5
      · rw [hS0 20 (by decide) (by decide), hS0 21 (by decide) (by decide), hS0 22 (by decide) (by decide), hS0 24 (by decide) (by decide), hS0 1 (by decide) (by decide), hS0 12 (by decide) (by decide)]
        exact g6
    obtain ⟨w, T1, T', K', S', f1, f2, f3, f4, f5, f6, f7, f8⟩ := etk (S := S0) (T := T0) hc RT0 RK0 IT1 IK1 (by rw [hS0 11 (by decide) (by decide)]; exact h11) t1 t2 (by omega) (by rw [hS0 12 (by decide) (by decide)]; exact t3)
    have hr : ∀ j, j ≠ 0 → j ≠ 12 → j ≠ 13 → j ≠ 20 → S' j = S j := fun j j0 j1 j3 j2 => (f4 j j1 j2).trans (hS0 j j0 j3)
    have q1 : S' 1 = S 1 := hr 1 (by decide) (by decide) (by decide) (by decide)
    obtain ⟨U', S'', L', w1, w2, w3, w4⟩ := H.wrt hc (B' := B) (c' := c) (by omega) (by rw [q1]; exact hB) f5 f6 (i1.of q1 (Nat.le_refl c)) f7 f8 (fun j j1 j2 => hr j (by omega) (by omega) (by omega) (by omega)) (fun j j1 j2 => hr j (by omega) (by omega) (by omega) (by omega)) 4 (nI t) (1 + nI w) (B 5 0) (by rw [q1]; exact hB.symm)
    refine ⟨1 + nI w, T', K', U', L', S'', ?_, ?_, ?_, w4⟩
    · rw [a1, zth_r, a2, zth_r, hu1, zbs, f1, zbs]
      simp only [f2, zbs, w1]
    · rw [a3, zbs, zs_in, if_pos le0_0, hv1, zix_nI (show t < 520 by omega) (by decide), f3, zbs]
      simp only [w2, zbs]
    · rw [w3 0 (by omega) (by omega), f4 0 (by decide) (by decide), v2 0 (by decide)]
      rfl
