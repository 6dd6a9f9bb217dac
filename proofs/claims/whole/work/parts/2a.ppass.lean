/-! pure: pass, revokeBelow -/
theorem Inv.nw {c c' : Nat} {B P M T K U : SS} {L : SL} {S : SS} {V : SL} (H : Inv c B P M T K U L S V) {B' T' K' S' : SS} (hc' : c' ≤ c + 1) (hB : B' 5 0 = S' 1 0) (hT : RTok T' S') (hK : RCre K' S') (i1 : ITim c' S') (i4 : ITok c' T' S') (i5 : ICre c' K' S') (q : eqr 2 10 S S') (qa : eqr 26 29 S S') :
    Inv (c + 1) B' P M T' K' U L S' V := by
  obtain ⟨⟨_, hL, h3, h4, _, _, h7⟩, _, j2, j3, _, _, j6⟩ := H
  exact ⟨⟨hB, hL, h3.of (eqr_sub q (by omega) (by omega)), h4.of (eqr_sub q (by omega) (by omega)), hT, hK, h7.of qa⟩, i1.of rfl hc', j2.of (eqr_sub q (by omega) (by omega)), j3.of (eqr_sub q (by omega) (by omega)), i4.of rfl eqr_rf hc', i5.of rfl eqr_rf hc', j6.of (qa 26 (by omega) (by omega)) (by omega)⟩
theorem st_pass {c : Nat} (hc : c < 512) {B P M T K U : SS} {L : SL} {S : SS} {V : SL} (H : Inv c B P M T K U L S V) (x1 : Int32) :
    (∃ q S', f_X7_pass B T K U L x1 = some (.inl "java/lang/IllegalArgumentException") ∧ f_X8_pass S V x1 = some (q, S', V) ∧ S' 0 0 = 1 ∧ Inv (c + 1) B P M T K U L S' V) ∨
    (∃ q B' T' K' U' L' S', f_X7_pass B T K U L x1 = some (.inr (q, B', T', K', U', L')) ∧ f_X8_pass S V x1 = some (q, S', L') ∧ S' 0 0 = 0 ∧ Inv (c + 1) B' P M T' K' U' L' S' L') := by
  have H0 := H
  obtain ⟨⟨hB, hL, _, _, RT, RK, _⟩, ⟨τ, hτ, hs1⟩, _, _, ⟨m, hm1, hmc, h11, h12, h13, h14, h16, t5, c30, hp⟩, ⟨g, m2, hgc, h19, hm2, g11, k5, c40, ho⟩, _⟩ := H0
  have : m2 = m := (nI_eq (by omega) (by omega)).mp (g11.symm.trans h11)
  subst this
  have hth : ∀ v, Inv (c + 1) B P M T K U L (zs S 0 v) V := fun v => H.th (eqr_zs (by omega) eqr_rf)
  have hbad : f_X8_pass_13 S V x1 = some (0, zs S 0 1, V) := by
    unfold f_X8_pass_13 f_X8_pass_18
    rw [zs_in, if_neg n1le0]
  unfold f_X7_pass f_X8_pass
  rw [rng]
  by_cases h1 : x1 < 1
  · exact Or.inl ⟨_, _, by rw [if_pos h1, zth_l], by rw [if_pos h1, hbad], rfl, hth 1⟩
  · by_cases h2 : x1 ≤ 1000
    · right
      obtain ⟨k, k1, k2, rfl⟩ := min_of h1 h2
      rw [if_neg h1, if_pos h2, zth_r, if_neg h1, if_pos h2, zs_in, hB]
      have t4 : T 4 0 = nI m2 := RT.1.trans h11
      have k4 : K 4 0 = nI g := RK.1.trans h19
      obtain ⟨wt, T1, e1, e2, e3, e4, e5, e6⟩ := ebt (now := S 1 0 + nI k) t4 (by omega) (by rw [RT.2.1]; exact t5)
      obtain ⟨wk, K1, d1, d2, d3, d4, d5, d6⟩ := ebt (now := S 1 0 + nI k) k4 (show g ≤ 513 by omega) (by rw [RK.2.1]; exact k5)
      have hneg : ∀ x : Int32, S 1 0 < x → x ≠ -1 := fun x hx q => by
        rw [q, hs1] at hx
        exact absurd (Int32.lt_of_le_of_lt (nI_pos' (show τ < 2 ^ 31 by omega)) hx) (by decide)
      have hS1 : eqr 2 30 S (zs (zs S 0 0) 1 (S 1 0 + nI k)) := eqr_zs (by omega) (eqr_zs (by omega) eqr_rf)
      have RT0 : RTk0 T1 (zs (zs S 0 0) 1 (S 1 0 + nI k)) := (RT.of (eqr_sub hS1 (by omega) (by omega))).z.of e2 (fun _ _ _ => rfl)
      have RK0 : RCr0 K1 (zs (zs S 0 0) 1 (S 1 0 + nI k)) := (RK.of (eqr_sub hS1 (by omega) (by omega))).z.of d2 (fun _ _ _ => rfl)
      rw [RT.2.2.2.2.2.1, RT.2.1] at e5
      rw [RK.2.2.2.2.2.1, RK.2.1] at d5
      rw [RT.2.1] at e4 e6
      rw [RK.2.1] at d4 d6
      obtain ⟨w, w', T', K', S', f1, f2, f3, f4, f5, f6, f7, f8, f9⟩ := cea (c := c) (m := m2) (g := g) RT0 RK0 hm1 hmc (by omega) hgc (by omega) h11 h19 h12 h13 h14 h16 (fun s s1 s2 => (hp s s1 s2).1) (fun j hj => ⟨(ho j hj).1, (ho j hj).2.1⟩) c30 c40 e3 d3
        (fun t a1 a2 => ⟨fun hD => by
            by_cases hne : S 16 t = -1
            · rw [(e5 t a2).2 (fun q => q.1 hne)]
              exact Classical.byContradiction (fun h => hneg _ ((hp t a1 a2).2 h).1 hne)
            · exact (e5 t a2).1 ⟨hne, hD⟩, fun hD => (e5 t a2).2 (fun q => hD q.2)⟩)
        (fun t ht => ht.elim (fun a => by
            have : t = 0 := by omega
            subst this
            exact (e5 0 (by omega)).2 (fun q => q.1 h16)) (fun a => e6 t a))
        (fun t a2 => ⟨fun hD => by
            by_cases hne : S 24 t = -1
            · rw [(d5 t a2).2 (fun q => q.1 hne)]
              exact Classical.byContradiction (fun h => hneg _ ((ho t a2).2.2 h).1 hne)
            · exact (d5 t a2).1 ⟨hne, hD⟩, fun hD => (d5 t a2).2 (fun q => hD q.2)⟩)
        (fun t a => d6 t a)
      have g12 : (zs (zs S 0 0) 1 (S 1 0 + nI k)) 12 = S 12 := rfl
      have g20 : (zs (zs S 0 0) 1 (S 1 0 + nI k)) 20 = S 20 := rfl
      rw [g12, g20] at f9
      have hw : w' = wt + wk + w := by omega
      subst hw
      have hr : ∀ j, j ≠ 0 → j ≠ 1 → j ≠ 12 → j ≠ 20 → S' j = S j := fun j j0 j1 j2 j3 => (f3 j j2 j3).trans ((zs_out _ _ j1).trans (zs_out _ _ j0))
      have q1 : S' 1 0 = S 1 0 + nI k := by rw [f3 1 (by decide) (by decide)]; exact zs_in _ _ _
      have i1 : ITim (c + 1) S' := ⟨τ + k, by omega, by rw [q1, hs1, nI_add]⟩
      have hc1 : c ≤ c + 1 := Nat.le_succ c
      have f6' : ITok (c + 1) T' S' := f6.of rfl eqr_rf hc1
      have f7' : ICre (c + 1) K' S' := f7.of rfl eqr_rf hc1
      have hB' : (zs B 5 (S 1 0 + nI k)) 5 0 = S' 1 0 := by rw [zs_in, q1]
      have hs0 : S' 0 0 = 0 := by rw [f3 0 (by decide) (by decide)]; rfl
      unfold f_X8_pass_18
      rw [zs_in, if_pos le0_0, e1, zbs, f2, zbs]
      simp only [d1, zbs, f1, nI_add]
      by_cases hw0 : nI (wt + wk + w) ≤ 0
      · rw [if_pos hw0, if_pos hw0, hL]
        exact ⟨_, _, _, _, _, _, _, rfl, rfl, hs0, hL ▸ H.nw (Nat.le_refl _) hB' f4 f5 i1 f6' f7' (fun j j1 j2 => hr j (by omega) (by omega) (by omega) (by omega)) (fun j j1 j2 => hr j (by omega) (by omega) (by omega) (by omega))⟩
      · obtain ⟨U', S'', L', w1, w2, w3, w4⟩ := H.wrt hc (Nat.le_refl _) hB' f4 f5 i1 f6' f7' (fun j j1 j2 => hr j (by omega) (by omega) (by omega) (by omega)) (fun j j1 j2 => hr j (by omega) (by omega) (by omega) (by omega)) 5 0 (nI (wt + wk + w)) (S 1 0 + nI k) q1
        rw [if_neg hw0, if_neg hw0, w1, zbs, w2, zbs]
        exact ⟨_, _, _, _, _, _, _, rfl, rfl, by show S'' 0 0 = 0; rw [w3 0 (by omega) (by omega)]; exact hs0, w4⟩
    · exact Or.inl ⟨_, _, by rw [if_neg h1, if_neg h2, zth_l], by rw [if_neg h1, if_neg h2, hbad], rfl, hth 1⟩
theorem st_revokeBelow {c : Nat} (hc : c < 512) {B P M T K U : SS} {L : SL} {S : SS} {V : SL} (H : Inv c B P M T K U L S V) (x1 : Int32) :
    (∃ q S', f_X7_revokeBelow B K U L x1 = some (.inl "java/lang/IllegalArgumentException") ∧ f_X8_revokeBelow S V x1 = some (q, S', V) ∧ S' 0 0 = 1 ∧ Inv (c + 1) B P M T K U L S' V) ∨
    (∃ q K' U' L' S', f_X7_revokeBelow B K U L x1 = some (.inr (q, K', U', L')) ∧ f_X8_revokeBelow S V x1 = some (q, S', L') ∧ S' 0 0 = 0 ∧ Inv (c + 1) B P M T K' U' L' S' L') := by
  have H0 := H
  obtain ⟨⟨hB, _, _, _, RT, RK, _⟩, i1, _, _, IT, ⟨g, m, hgc, h19, hmc, h11, k5, c40, ho⟩, _⟩ := H0
  have hth : ∀ v, Inv (c + 1) B P M T K U L (zs S 0 v) V := fun v => H.th (eqr_zs (by omega) eqr_rf)
  unfold f_X7_revokeBelow f_X8_revokeBelow f_X7_checkPath
  obtain ⟨f, f1, f2, f3⟩ := pth x1
  rw [f1, zbs, f2, zbs]
  rcases f3 with f3 | ⟨f3, ⟨a, ha, rfl⟩⟩
  · exact Or.inl ⟨_, _, by rw [if_pos f3, zth_l], by rw [if_pos f3, zs_in, if_neg n1le0], rfl, hth 1⟩
  · right
    have hf0 : ¬ f = 0 := by rw [f3]; decide
    rw [if_neg hf0, if_neg hf0, zth_r, zs_in, if_pos le0_0]
    have hb : ∀ t, t < g → ∃ r, f_X4_isBelow (S 22 t) (nI a) = some r ∧ f_X8_isBelow (S 22 t) (nI a) = some r := fun t ht => by
      obtain ⟨b, b1, b2⟩ := (ho t ht).2.1
      obtain ⟨r, r1, r2, _⟩ := blw_eq b1 ha
      rw [b2]
      exact ⟨r, r1, r2⟩
    obtain ⟨w, K', e1, e2, e3, e4, e5, e6⟩ := ebp (x := nI a) (RK.1.trans h19) (show g ≤ 513 by omega) (by rw [RK.2.1]; exact k5) (fun t ht => by
      rw [RK.2.2.2.1]
      obtain ⟨r, r1, _⟩ := hb t ht
      exact ⟨r, r1⟩)
    rw [RK.2.2.2.1, RK.2.1] at e5
    rw [RK.2.1] at e4 e6
    have z : ∀ {α : Type} (i : Nat), i < g → ∀ (o : Option α), zix (nI i) 520 o = o := fun i hi o => zix_nI (show i < 520 by omega) (by decide) o
    obtain ⟨w', S1, s1, s2, s3, s4, s5⟩ := hl_all (S := zs S 0 0) (m := g) (r := 20) (i0 := 0) (W := cnt (S 20) g) (fun _ t => f_X4_isBelow (S 22 t) (nI a) ≠ some 0) (fun _ _ _ _ _ _ => Iff.rfl) (fun n Sc w i => f_X8_revokeBelow_29 n Sc V (nI a) w i) (fun Sc w => (f_X8_writes Sc V 4 0 w).bind (fun r5 => some (w, r5.1, r5.2))) (fun n Sc w ha => by
        show f_X8_revokeBelow_29 (n + 1) Sc V (nI a) w (nI g) = _
        rw [f_X8_revokeBelow_29, ha 19 (by decide), show (zs S 0 0) 19 0 = nI g from h19, if_pos (nI_le (Nat.le_refl g) (by omega))]) (fun n Sc w i ha h0 hi hcc => by
        show f_X8_revokeBelow_29 (n + 1) Sc V (nI a) w (nI i) = f_X8_revokeBelow_29 n Sc V (nI a) w (nI (i + 1))
        obtain ⟨r, r1, r2⟩ := hb i hi
        rw [f_X8_revokeBelow_29, ha 19 (by decide), show (zs S 0 0) 19 0 = nI g from h19, if_neg (nI_ge hi (by omega)), ha 22 (by decide)]
        simp only [z i hi, nI_clamp (show i < 2 ^ 31 by omega), nI_1, show (zs S 0 0) 22 = S 22 from rfl, r2, zbs]
        by_cases h1 : Sc 20 i = 0
        · rw [if_pos h1]
        · have hr : r = 0 := Classical.byContradiction (fun h => hcc.resolve_left h1 (by rw [r1]; exact fun e => h (Option.some.inj e)))
          rw [if_neg h1, if_pos hr]) (fun n Sc w i ha h0 hi hcc hd => by
        show f_X8_revokeBelow_29 (n + 1) Sc V (nI a) w (nI i) = f_X8_revokeBelow_29 n (za Sc 20 (nI i) (vp_nar .boolean 0)) V (nI a) (w + 1) (nI (i + 1))
        obtain ⟨r, r1, r2⟩ := hb i hi
        rw [f_X8_revokeBelow_29, ha 19 (by decide), show (zs S 0 0) 19 0 = nI g from h19, if_neg (nI_ge hi (by omega)), ha 22 (by decide)]
        simp only [z i hi, nI_clamp (show i < 2 ^ 31 by omega), nI_1, show (zs S 0 0) 22 = S 22 from rfl, r2, zbs]
        have hr : ¬ r = 0 := fun h => hd (by rw [r1, h])
        rw [if_neg hcc, if_neg hr]) (show g ≤ 520 by omega) g 600 0 (zs S 0 0) 0 (Nat.zero_add g) (by omega) (Nat.le_refl 0) (fun _ _ => rfl) rfl (fun t _ ht => absurd ht (Nat.not_lt_zero t)) (fun _ _ => rfl)
    have g20 : (zs S 0 0) 20 = S 20 := rfl
    rw [g20] at s4 s5
    have hK : K' 3 = S1 20 := by
      funext t
      by_cases ht : t < g
      · by_cases hq : f_X4_isBelow (S 22 t) (nI a) ≠ some 0
        · rw [(e5 t ht).1 hq, (s4 t (Nat.zero_le t) ht).1 hq]
        · rw [(e5 t ht).2 hq, (s4 t (Nat.zero_le t) ht).2 hq]
      · rw [e6 t (by omega), s5 t (Or.inr (by omega))]
    have hS : ∀ j, j ≠ 0 → j ≠ 20 → S1 j = S j := fun j j0 j1 => (s2 j j1).trans (zs_out _ _ j0)
    have hw : w' = w := by rw [hK] at e4; omega
    subst hw
    have q1 : S1 1 = S 1 := hS 1 (by decide) (by decide)
    have RT1 : RTok T S1 := RT.of (fun j j1 j2 => hS j (by omega) (by omega))
    have RK1 : RCre K' S1 := by
      obtain ⟨h1, _, h2, h3, h4, h5, h6⟩ := RK
      refine ⟨?_, hK, ?_, ?_, ?_, ?_, ?_⟩
      · rw [e2 4 (by decide) (by decide), hS 19 (by decide) (by decide)]; exact h1
      · rw [e2 6 (by decide) (by decide), hS 21 (by decide) (by decide)]; exact h2
      · rw [e2 7 (by decide) (by decide), hS 22 (by decide) (by decide)]; exact h3
      · rw [e2 0 (by decide) (by decide), hS 23 (by decide) (by decide)]; exact h4
      · rw [e2 1 (by decide) (by decide), hS 24 (by decide) (by decide)]; exact h5
      · rw [e2 2 (by decide) (by decide), hS 25 (by decide) (by decide)]; exact h6
    have IK1 : ICre c K' S1 := by
      refine ⟨g, m, hgc, ?_, hmc, ?_, ?_, by omega, ?_⟩
      · rw [hS 19 (by decide) (by decide)]; exact h19
      · rw [hS 11 (by decide) (by decide)]; exact h11
      · rw [← hK]; exact e3
      · intro j hj
        rw [hS 21 (by decide) (by decide), hS 22 (by decide) (by decide), hS 24 (by decide) (by decide), hS 1 (by decide) (by decide), hS 12 (by decide) (by decide)]
        refine ⟨(ho j hj).1, (ho j hj).2.1, fun hl => ?_⟩
        have hq : ¬ f_X4_isBelow (S 22 j) (nI a) ≠ some 0 := fun q => hl ((s4 j (Nat.zero_le j) hj).1 q)
        exact (ho j hj).2.2 (by rw [← (s4 j (Nat.zero_le j) hj).2 hq]; exact hl)
    obtain ⟨U', S'', L', w1, w2, w3, w4⟩ := H.wrt hc (B' := B) (c' := c) (by omega) (by rw [q1]; exact hB) RT1 RK1 (i1.of q1 (Nat.le_refl c)) (IT.of q1 (fun j j1 j2 => hS j (by omega) (by omega)) (Nat.le_refl c)) IK1 (fun j j1 j2 => hS j (by omega) (by omega)) (fun j j1 j2 => hS j (by omega) (by omega)) 4 0 (nI w') (B 5 0) (by rw [q1]; exact hB.symm)
    refine ⟨nI w', K', U', L', S'', ?_, ?_, ?_, w4⟩
    · rw [e1, zbs]
      simp only [w1, zbs]
    · have s1' : f_X8_revokeBelow_29 600 (zs S 0 0) V (nI a) 0 0 = _ := s1
      rw [s1', w2, zbs]
    · rw [w3 0 (by omega) (by omega), s2 0 (by decide)]
      rfl
