/-! pure: what ends, together -/
/-- the rows of tokens beside the reference's, but for who is alive -/
def RTk0 (T S : SS) : Prop := T 4 0 = S 11 0 ∧ T 6 = S 13 ∧ T 7 = S 14 ∧ T 0 = S 15 ∧ T 1 = S 16 ∧ T 2 = S 17 ∧ T 8 = S 18
def RCr0 (K S : SS) : Prop := K 4 0 = S 19 0 ∧ K 6 = S 21 ∧ K 7 = S 22 ∧ K 0 = S 23 ∧ K 1 = S 24 ∧ K 2 = S 25
theorem RTok.z {T S : SS} (h : RTok T S) : RTk0 T S := ⟨h.1, h.2.2.1, h.2.2.2.1, h.2.2.2.2.1, h.2.2.2.2.2.1, h.2.2.2.2.2.2.1, h.2.2.2.2.2.2.2⟩
theorem RTk0.s {T S : SS} (h : RTk0 T S) (h3 : T 3 = S 12) : RTok T S := ⟨h.1, h3, h.2.1, h.2.2.1, h.2.2.2.1, h.2.2.2.2.1, h.2.2.2.2.2.1, h.2.2.2.2.2.2⟩
theorem RCre.z {K S : SS} (h : RCre K S) : RCr0 K S := ⟨h.1, h.2.2.1, h.2.2.2.1, h.2.2.2.2.1, h.2.2.2.2.2.1, h.2.2.2.2.2.2⟩
theorem RCr0.s {K S : SS} (h : RCr0 K S) (h3 : K 3 = S 20) : RCre K S := ⟨h.1, h3, h.2.1, h.2.2.1, h.2.2.2.1, h.2.2.2.2.1, h.2.2.2.2.2⟩
theorem RTk0.of {T T' S S' : SS} (h : RTk0 T S) (ha : agr T T') (hs : ∀ j, j ≠ 12 → j ≠ 20 → S' j = S j) : RTk0 T' S' := by
  obtain ⟨h1, h2, h3, h4, h5, h6, h7⟩ := h
  refine ⟨?_, ?_, ?_, ?_, ?_, ?_, ?_⟩
  · rw [ha 4 (by decide) (by decide), hs 11 (by decide) (by decide)]; exact h1
  · rw [ha 6 (by decide) (by decide), hs 13 (by decide) (by decide)]; exact h2
  · rw [ha 7 (by decide) (by decide), hs 14 (by decide) (by decide)]; exact h3
  · rw [ha 0 (by decide) (by decide), hs 15 (by decide) (by decide)]; exact h4
  · rw [ha 1 (by decide) (by decide), hs 16 (by decide) (by decide)]; exact h5
  · rw [ha 2 (by decide) (by decide), hs 17 (by decide) (by decide)]; exact h6
  · rw [ha 8 (by decide) (by decide), hs 18 (by decide) (by decide)]; exact h7
theorem RCr0.of {K K' S S' : SS} (h : RCr0 K S) (ha : agr K K') (hs : ∀ j, j ≠ 12 → j ≠ 20 → S' j = S j) : RCr0 K' S' := by
  obtain ⟨h1, h2, h3, h4, h5, h6⟩ := h
  refine ⟨?_, ?_, ?_, ?_, ?_, ?_⟩
  · rw [ha 4 (by decide) (by decide), hs 19 (by decide) (by decide)]; exact h1
  · rw [ha 6 (by decide) (by decide), hs 21 (by decide) (by decide)]; exact h2
  · rw [ha 7 (by decide) (by decide), hs 22 (by decide) (by decide)]; exact h3
  · rw [ha 0 (by decide) (by decide), hs 23 (by decide) (by decide)]; exact h4
  · rw [ha 1 (by decide) (by decide), hs 24 (by decide) (by decide)]; exact h5
  · rw [ha 2 (by decide) (by decide), hs 25 (by decide) (by decide)]; exact h6
theorem cnt_mono {F f : Nat → Int32} {n : Nat} (h : ∀ t, t < n → F t = 0 ∨ F t = f t) : cnt F n ≤ cnt f n := by
  induction n with
  | zero => exact Nat.le_refl _
  | succ n ih =>
    have h1 := ih (fun t ht => h t (by omega))
    simp only [cnt]
    rcases h n (by omega) with q | q
    · rw [if_pos q]; omega
    · rw [q]; omega
theorem cea {c m g : Nat} {T K S : SS} (RT : RTk0 T S) (RK : RCr0 K S) (hm1 : 1 ≤ m) (hmc : m ≤ c + 1) (hm : m ≤ 513) (hgc : g ≤ c) (hg : g ≤ 513) (h11 : S 11 0 = nI m) (h19 : S 19 0 = nI g)
    (h12 : S 12 0 ≠ 0) (h13 : S 13 0 = -1) (h14 : S 14 0 = 0) (h16 : S 16 0 = -1) (hp : ∀ t, 1 ≤ t → t < m → S 13 t = -1 ∨ ∃ p : Nat, p < t ∧ S 13 t = nI p) (ho : ∀ j, j < g → (∃ p : Nat, p < m ∧ S 21 j = nI p) ∧ isP (S 22 j))
    (c30 : cnt (S 12) m ≤ 30) (c40 : cnt (S 20) g ≤ 40) (t5 : T 5 0 = nI (cnt (T 3) m)) (k5 : K 5 0 = nI (cnt (K 3) g))
    (bt : ∀ t, 1 ≤ t → t < m → (S 16 t ≤ S 1 0 → T 3 t = 0) ∧ (¬ S 16 t ≤ S 1 0 → T 3 t = S 12 t)) (bt0 : ∀ t, t < 1 ∨ m ≤ t → T 3 t = S 12 t)
    (bk : ∀ t, t < g → (S 24 t ≤ S 1 0 → K 3 t = 0) ∧ (¬ S 24 t ≤ S 1 0 → K 3 t = S 20 t)) (bk0 : ∀ t, g ≤ t → K 3 t = S 20 t) :
    ∃ w w' T' K' S', f_X7_endWhatHungOnTokens T K = some (nI w, T', K') ∧ f_X8_ceases S = some (nI w', S') ∧ (∀ j, j ≠ 12 → j ≠ 20 → S' j = S j) ∧ RTok T' S' ∧ RCre K' S' ∧ ITok c T' S' ∧ ICre c K' S' ∧
      cnt (S' 12) m + cnt (S' 20) g + w = cnt (T 3) m + cnt (K 3) g ∧ cnt (S' 12) m + cnt (S' 20) g + w' = cnt (S 12) m + cnt (S 20) g := by
  have t4 : T 4 0 = nI m := RT.1.trans h11
  have k4 : K 4 0 = nI g := RK.1.trans h19
  have hp0 : ∀ t, t < m → T 6 t = -1 ∨ ∃ p : Nat, p < t ∧ T 6 t = nI p := fun t ht => by
    rw [RT.2.1]
    rcases (show t = 0 ∨ 1 ≤ t by omega) with h | h
    · subst h; exact Or.inl h13
    · exact hp t h ht
  obtain ⟨w1, T', e1, e2, e3, e4, e5, e6⟩ := ebe t4 hm t5 hp0
  have t4' : T' 4 0 = nI m := by rw [e2 4 (by decide) (by decide)]; exact t4
  obtain ⟨w2, K', d1, d2, d3, d4, d5, d6⟩ := eoe t4' hm k4 hg k5 (fun t ht => by rw [RK.2.1]; exact (ho t ht).1)
  obtain ⟨v1, S1, a1, a2, a3, a4, a5⟩ := ceaT h11 hm1 hm hp
  obtain ⟨v2, S2, b1, b2, b3, b4, b5⟩ := ceaK (S := S1) (g := g) (w := v1) (W := cnt (S1 20) g + v1) (by rw [a2 19 (by decide)]; exact h19) hg (fun t ht => by
    rw [a2 21 (by decide)]
    obtain ⟨p, p1, p2⟩ := (ho t ht).1
    exact ⟨p, by omega, p2⟩) rfl
  rw [a2 24 (by decide), a2 1 (by decide), a2 21 (by decide), a2 20 (by decide)] at b4
  rw [a2 20 (by decide)] at b3 b5
  have hS : ∀ j, j ≠ 12 → j ≠ 20 → S2 j = S j := fun j j1 j2 => (b2 j j2).trans (a2 j j1)
  have s12 : S2 12 = S1 12 := b2 12 (by decide)
  rw [RT.2.1] at e5
  -- the tokens alive are the same
  have hT : ∀ t, T' 3 t = S1 12 t := by
    intro t
    induction t using Nat.strongRecOn with
    | ind t ih =>
      by_cases ht : t < m
      · have e := e5 t ht
        rcases (show t = 0 ∨ 1 ≤ t by omega) with h0 | h0
        · subst h0
          rw [e.2 (fun q => q.1 h13), bt0 0 (Or.inl (by omega)), a5 0 (Or.inl (by omega))]
        · have a := a4 t h0 ht
          have b := bt t h0 ht
          have hq : (S 13 t ≠ -1 ∧ T' 3 (S 13 t).toNatClampNeg = 0) ↔ (S 13 t ≠ -1 ∧ S1 12 (S 13 t).toNatClampNeg = 0) := by
            rcases hp t h0 ht with q | ⟨p, q1, q2⟩
            · exact ⟨fun h => absurd q h.1, fun h => absurd q h.1⟩
            · rw [q2, nI_clamp (show p < 2 ^ 31 by omega), ih p q1]
          by_cases hQ : S 13 t ≠ -1 ∧ S1 12 (S 13 t).toNatClampNeg = 0
          · rw [e.1 (hq.mpr hQ), a.1 (Or.inr hQ)]
          · rw [e.2 (fun q => hQ (hq.mp q))]
            by_cases hD : S 16 t ≤ S 1 0
            · rw [b.1 hD, a.1 (Or.inl hD)]
            · rw [b.2 hD, a.2 (fun q => q.elim hD hQ)]
      · rw [e6 t (by omega), bt0 t (Or.inr (by omega)), a5 t (Or.inr (by omega))]
  have hTf : T' 3 = S1 12 := funext hT
  rw [RK.2.1, hTf] at d5
  have hK : ∀ t, K' 3 t = S2 20 t := by
    intro t
    by_cases ht : t < g
    · have d := d5 t ht
      have b := b4 t (Nat.zero_le t) ht
      have k := bk t ht
      by_cases hQ : S1 12 (S 21 t).toNatClampNeg = 0
      · rw [d.1 hQ, b.1 (Or.inr hQ)]
      · rw [d.2 hQ]
        by_cases hD : S 24 t ≤ S 1 0
        · rw [k.1 hD, b.1 (Or.inl hD)]
        · rw [k.2 hD, b.2 (fun q => q.elim hD hQ)]
    · rw [d6 t (by omega), bk0 t (by omega), b5 t (Or.inr (by omega))]
  have hKf : K' 3 = S2 20 := funext hK
  have hTf2 : T' 3 = S2 12 := hTf.trans s12.symm
  have hk40 : cnt (S2 20) g ≤ cnt (S 20) g := cnt_mono (fun t ht => by
    by_cases hq : S 24 t ≤ S 1 0 ∨ S1 12 (S 21 t).toNatClampNeg = 0
    · exact Or.inl ((b4 t (Nat.zero_le t) ht).1 hq)
    · exact Or.inr ((b4 t (Nat.zero_le t) ht).2 hq))
  refine ⟨w1 + w2, v2, T', K', S2, ?_, a1.trans b1, hS, (RT.of e2 hS).s hTf2, (RK.of d2 hS).s hKf, ?_, ?_, ?_, ?_⟩
  · unfold f_X7_endWhatHungOnTokens
    rw [e1, zbs, d1, zbs, nI_add]
  · refine ⟨m, hm1, hmc, ?_, ?_, ?_, ?_, ?_, ?_, by rw [s12]; omega, ?_⟩
    · rw [hS 11 (by decide) (by decide)]; exact h11
    · rw [s12, a5 0 (Or.inl (by omega))]; exact h12
    · rw [hS 13 (by decide) (by decide)]; exact h13
    · rw [hS 14 (by decide) (by decide)]; exact h14
    · rw [hS 16 (by decide) (by decide)]; exact h16
    · rw [← hTf2]; exact e3
    · intro t h0 ht
      rw [hS 13 (by decide) (by decide), hS 16 (by decide) (by decide), hS 1 (by decide) (by decide), s12]
      refine ⟨hp t h0 ht, fun hl => ?_⟩
      have hno : ¬ (S 16 t ≤ S 1 0 ∨ (S 13 t ≠ -1 ∧ S1 12 (S 13 t).toNatClampNeg = 0)) := fun q => hl ((a4 t h0 ht).1 q)
      refine ⟨i32_nle (fun q => hno (Or.inl q)), ?_⟩
      by_cases h1 : S 13 t = -1
      · exact Or.inl h1
      · exact Or.inr (fun q => hno (Or.inr ⟨h1, q⟩))
  · refine ⟨g, m, hgc, ?_, hmc, ?_, ?_, by omega, ?_⟩
    · rw [hS 19 (by decide) (by decide)]; exact h19
    · rw [hS 11 (by decide) (by decide)]; exact h11
    · rw [← hKf]; exact d3
    · intro j hj
      rw [hS 21 (by decide) (by decide), hS 22 (by decide) (by decide), hS 24 (by decide) (by decide), hS 1 (by decide) (by decide), s12]
      refine ⟨(ho j hj).1, (ho j hj).2, fun hl => ?_⟩
      have hno : ¬ (S 24 j ≤ S 1 0 ∨ S1 12 (S 21 j).toNatClampNeg = 0) := fun q => hl ((b4 j (Nat.zero_le j) hj).1 q)
      exact ⟨i32_nle (fun q => hno (Or.inl q)), fun q => hno (Or.inr q)⟩
  · rw [hTf2] at e4
    rw [hKf] at d4
    omega
  · rw [s12]
    omega
