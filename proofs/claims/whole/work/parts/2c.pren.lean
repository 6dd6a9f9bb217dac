/-! pure: renew, renewCredential, reads -/
theorem i32_eq {x y : Int32} (h1 : x ≤ y) (h2 : y ≤ x) : x = y := Int32.le_antisymm h1 h2
/-- the two ways to say the new end -/
theorem prl {S : SS} (b e d x : Int32) : ∃ r, f_X8_renewed S b e d x = some r ∧ (if e < (if (b + d) < (S 1 0 + x) then (b + d) else (S 1 0 + x)) then (if (b + d) < (S 1 0 + x) then (b + d) else (S 1 0 + x)) else e) = r ∧ e ≤ r := by
  unfold f_X8_renewed
  generalize b + d = p
  generalize S 1 0 + x = q
  by_cases h1 : p < q
  · rw [if_pos h1, if_pos (Int32.le_of_lt h1)]
    by_cases h2 : e < p
    · exact ⟨p, by rw [if_neg (i32_gt h2)], by rw [if_pos h2], Int32.le_of_lt h2⟩
    · exact ⟨e, by rw [if_pos (i32_nlt h2)], by rw [if_neg h2], Int32.le_refl e⟩
  · rw [if_neg h1]
    have hqp : q ≤ p := i32_nlt h1
    by_cases h3 : p ≤ q
    · have hpq : p = q := i32_eq h3 hqp
      subst hpq
      rw [if_pos h3]
      by_cases h2 : e < p
      · exact ⟨p, by rw [if_neg (i32_gt h2)], by rw [if_pos h2], Int32.le_of_lt h2⟩
      · exact ⟨e, by rw [if_pos (i32_nlt h2)], by rw [if_neg h2], Int32.le_refl e⟩
    · rw [if_neg h3]
      by_cases h2 : e < q
      · exact ⟨q, by rw [if_neg (i32_gt h2)], by rw [if_pos h2], Int32.le_of_lt h2⟩
      · exact ⟨e, by rw [if_pos (i32_nlt h2)], by rw [if_neg h2], Int32.le_refl e⟩
theorem pro_X2 {T S : SS} {m t : Nat} {B0 x r : Int32} (h4 : T 4 0 = nI m) (hm : m ≤ 513) (ht : t < m) (hB : B0 = S 1 0) (hr : (if T 1 t < (if (T 0 t + T 2 t) < (S 1 0 + x) then (T 0 t + T 2 t) else (S 1 0 + x)) then (if (T 0 t + T 2 t) < (S 1 0 + x) then (T 0 t + T 2 t) else (S 1 0 + x)) else T 1 t) = r) :
    f_X2_prolong T (nI t) B0 x = some (za T 1 (nI t) r) ∧ f_X2_endAt (za T 1 (nI t) r) (nI t) = some r := by
  have z : ∀ {α : Type} (o : Option α), zix (nI t) 513 o = o := fun o => zix_nI (show t < 513 by omega) (by decide) o
  have cm : (nI t).toNatClampNeg = t := nI_clamp (by omega)
  constructor
  · unfold f_X2_prolong
    rw [has_X2' h4 (by omega) ht, zbs, if_neg n10, z, z, z, z, cm, hB, hr]
  · unfold f_X2_endAt
    rw [has_X2' (T := za T 1 (nI t) r) (m := m) h4 (by omega) ht, zbs, if_neg n10, z, za_nI T 1 (by omega), cm, pk_us]
theorem rn_bad {S : SS} {V : SL} {x1 x2 : Int32} (v : Int32) (hv : ¬ v ≤ 0) (Sc : SS) : f_X8_renew_47 Sc V x1 x2 v = some (0, zs Sc 0 v, V) := by
  unfold f_X8_renew_47
  rw [zs_in, if_neg hv]
theorem zs_zs (S : SS) (k : Nat) (a b : Int32) : zs (zs S k a) k b = zs S k b := by
  funext j
  unfold zs
  by_cases h : j = k
  · rw [if_pos h, if_pos h]
  · rw [if_neg h, if_neg h, if_neg h]
theorem st_renew {c : Nat} (hc : c < 512) {B P M T K U : SS} {L : SL} {S : SS} {V : SL} (H : Inv c B P M T K U L S V) (x1 x2 : Int32) :
    (∃ E cd q S', f_X7_renew B T U L x1 x2 = some (.inl E) ∧ (E = "java/lang/IndexOutOfBoundsException" ∧ cd = 1 ∨ E = "java/lang/IllegalArgumentException" ∧ cd = 2 ∨ E = "java/lang/IllegalStateException" ∧ cd = 3) ∧ f_X8_renew S V x1 x2 = some (q, S', V) ∧ S' 0 0 = cd ∧ Inv (c + 1) B P M T K U L S' V) ∨
    (∃ q T' U' L' S', f_X7_renew B T U L x1 x2 = some (.inr (q, T', U', L')) ∧ f_X8_renew S V x1 x2 = some (q, S', L') ∧ S' 0 0 = 0 ∧ Inv (c + 1) B P M T' K U' L' S' L') := by
  have H0 := H
  obtain ⟨⟨hB, _, RP, _, RT, RK, _⟩, i1, _, _, IT, IK, _⟩ := H0
  have hth : ∀ v, Inv (c + 1) B P M T K U L (zs S 0 v) V := fun v => H.th (eqr_zs (by omega) eqr_rf)
  have IT0 := IT
  obtain ⟨m, hm1, hmc, h11, h12, h13, h14, h16, t5, c30, hp⟩ := IT0
  have t4 : T 4 0 = nI m := RT.1.trans h11
  have bad : ∀ v w : Int32, ¬ v ≤ 0 → f_X8_renew_47 (zs S 0 w) V x1 x2 v = some (0, zs S 0 v, V) := fun v w hv => by rw [rn_bad (S := S) v hv, zs_zs]
  unfold f_X7_renew f_X8_renew f_X8_renew_30
  rw [rng]
  rcases end_tok t4 h11 (by omega) RT.2.1 x1 with ⟨a1, a2⟩ | ⟨a1, a2, a3⟩ | ⟨t, t1, t2, rfl, t3, a1, a2, a3⟩
  · left
    exact ⟨_, 1, _, _, by rw [a1, zth_l], Or.inl ⟨rfl, rfl⟩, by rw [a2, zbs, zs_in, if_pos rfl, bad 1 1 n1le0], rfl, hth 1⟩
  · left
    rw [a1, zth_r, a3, zbs, zs_in, if_neg n21]
    by_cases h1 : x2 < 1
    · exact ⟨_, 2, _, _, by rw [if_pos h1, zth_l], Or.inr (Or.inl ⟨rfl, rfl⟩), by rw [if_pos h1, bad 2 2 n2le0], rfl, hth 2⟩
    · by_cases h2 : x2 ≤ 1000
      · exact ⟨_, 3, _, _, by rw [if_neg h1, if_pos h2, zth_r, a2, zth_l], Or.inr (Or.inr ⟨rfl, rfl⟩), by rw [if_neg h1, if_pos h2, if_pos rfl, bad 3 2 n3le0], rfl, hth 3⟩
      · exact ⟨_, 2, _, _, by rw [if_neg h1, if_neg h2, zth_l], Or.inr (Or.inl ⟨rfl, rfl⟩), by rw [if_neg h1, if_neg h2, bad 2 2 n2le0], rfl, hth 2⟩
  · rw [a1, zth_r, a3, zbs, zs_in, if_neg (show ¬ (0 : Int32) = 1 by decide)]
    by_cases h1 : x2 < 1
    · left
      exact ⟨_, 2, _, _, by rw [if_pos h1, zth_l], Or.inr (Or.inl ⟨rfl, rfl⟩), by rw [if_pos h1, bad 2 0 n2le0], rfl, hth 2⟩
    · by_cases h2 : x2 ≤ 1000
      · right
        rw [if_neg h1, if_pos h2, zth_r, a2, zth_r, if_neg h1, if_pos h2, if_neg (show ¬ (0 : Int32) = 2 by decide)]
        obtain ⟨r, r1, r2, r3⟩ := prl (S := zs (zs S 0 0) 0 0) (S 15 t) (S 16 t) (S 17 t) x2
        have r2' : (if T 1 t < (if (T 0 t + T 2 t) < (S 1 0 + x2) then (T 0 t + T 2 t) else (S 1 0 + x2)) then (if (T 0 t + T 2 t) < (S 1 0 + x2) then (T 0 t + T 2 t) else (S 1 0 + x2)) else T 1 t) = r := by
          rw [RT.2.2.2.2.1, RT.2.2.2.2.2.1, RT.2.2.2.2.2.2.1]
          exact r2
        obtain ⟨p1, p2⟩ := pro_X2 (B0 := B 5 0) (x := x2) t4 (by omega) t2 hB r2'
        have z : ∀ {α : Type} (o : Option α), zix (nI t) 520 o = o := fun o => zix_nI (show t < 520 by omega) (by decide) o
        have cm : (nI t).toNatClampNeg = t := nI_clamp (by omega)
        have hS : eqr 1 15 S (za (zs (zs S 0 0) 0 0) 16 (nI t) r) := eqr_za (by omega) (eqr_zs (by omega) (eqr_zs (by omega) eqr_rf))
        have hS2 : eqr 17 30 S (za (zs (zs S 0 0) 0 0) 16 (nI t) r) := eqr_za (by omega) (eqr_zs (by omega) (eqr_zs (by omega) eqr_rf))
        have e16 : (za (zs (zs S 0 0) 0 0) 16 (nI t) r) 16 = upd (S 16) t r := za_nI _ 16 (by omega) r
        have RT1 : RTok (za T 1 (nI t) r) (za (zs (zs S 0 0) 0 0) 16 (nI t) r) := by
          obtain ⟨h1, h2, h3, h4, h5, h6, h7, h8⟩ := RT
          refine ⟨h1, h2, h3, h4, h5, ?_, h7, h8⟩
          show upd (T 1) _ _ = upd (S 16) _ _
          rw [h6]
        have IT1 : ITok c (za T 1 (nI t) r) (za (zs (zs S 0 0) 0 0) 16 (nI t) r) := by
          refine ⟨m, hm1, hmc, h11, h12, h13, h14, ?_, t5, c30, fun s s1 s2 => ?_⟩
          · rw [e16, pk_un (by omega)]; exact h16
          · rw [e16]
            refine ⟨(hp s s1 s2).1, fun hl => ⟨?_, ((hp s s1 s2).2 hl).2⟩⟩
            by_cases hst : s = t
            · rw [hst, pk_us]
              exact Int32.lt_of_lt_of_le ((hp t t1 t2).2 t3).1 r3
            · rw [pk_un hst]
              exact ((hp s s1 s2).2 hl).1
        have IK1 : ICre c K (za (zs (zs S 0 0) 0 0) 16 (nI t) r) := IK
        obtain ⟨U', S'', L', w1, w2, w3, w4⟩ := H.wrt hc (B' := B) (c' := c) (S' := za (zs (zs S 0 0) 0 0) 16 (nI t) r) (by omega) hB RT1 (RK.of (eqr_sub hS2 (by omega) (by omega))) (i1.of rfl (Nat.le_refl c)) IT1 IK1 (eqr_sub hS (by omega) (by omega)) (eqr_sub hS2 (by omega) (by omega)) 1 (nI t) r (B 5 0) hB.symm
        refine ⟨r, za T 1 (nI t) r, U', L', S'', ?_, ?_, ?_, w4⟩
        · rw [p1, zbs, p2, zbs, w1, zbs]
        · unfold f_X8_renew_47
          rw [zs_in, if_pos le0_0]
          simp only [z, cm]
          rw [show f_X8_renewed (zs (zs S 0 0) 0 0) ((zs S 0 0) 15 t) ((zs S 0 0) 16 t) ((zs S 0 0) 17 t) x2 = some r from r1, zbs, e16, pk_us, w2, zbs]
          show some (S'' 16 t, S'', L') = _
          rw [w3 16 (by omega) (by omega), e16, pk_us]
        · rw [w3 0 (by omega) (by omega)]
          rfl
      · left
        exact ⟨_, 2, _, _, by rw [if_neg h1, if_neg h2, zth_l], Or.inr (Or.inl ⟨rfl, rfl⟩), by rw [if_neg h1, if_neg h2, bad 2 0 n2le0], rfl, hth 2⟩
theorem has_cre {K S : SS} {g : Nat} (h : K 4 0 = nI g) (h2 : S 19 0 = nI g) (hn : g < 2 ^ 31) (x : Int32) : (f_X7_checkCredential K x = some (.inl "java/lang/IndexOutOfBoundsException") ∧ f_X8_wasGiven S x = some 0) ∨ ∃ t : Nat, t < g ∧ x = nI t ∧ f_X7_checkCredential K x = some (.inr ()) ∧ f_X8_wasGiven S x = some 1 := by
  unfold f_X7_checkCredential f_X2_has f_X8_wasGiven
  rw [h, h2]
  rcases pk_ix x hn with q | q | ⟨j, hj, q⟩
  · exact Or.inl ⟨by rw [if_pos q, zbs, if_pos rfl], if_pos q⟩
  · by_cases q0 : x < 0
    · exact Or.inl ⟨by rw [if_pos q0, zbs, if_pos rfl], if_pos q0⟩
    · exact Or.inl ⟨by rw [if_neg q0, if_pos q, zbs, if_pos rfl], by rw [if_neg q0, if_pos q]⟩
  · refine Or.inr ⟨j, hj, q, ?_, ?_⟩
    · rw [q, if_neg (nI_pos (by omega)), if_neg (nI_ge hj hn), zbs, if_neg n10]
    · rw [q, if_neg (nI_pos (by omega)), if_neg (nI_ge hj hn)]
theorem rc_bad {V : SL} {x1 x2 : Int32} (v : Int32) (hv : ¬ v ≤ 0) (Sc : SS) : f_X8_renewCredential_43 Sc V x1 x2 v = some (0, zs Sc 0 v, V) := by
  unfold f_X8_renewCredential_43
  rw [zs_in, if_neg hv]
theorem st_renewCredential {c : Nat} (hc : c < 512) {B P M T K U : SS} {L : SL} {S : SS} {V : SL} (H : Inv c B P M T K U L S V) (x1 x2 : Int32) :
    (∃ E cd q S', f_X7_renewCredential B K U L x1 x2 = some (.inl E) ∧ (E = "java/lang/IndexOutOfBoundsException" ∧ cd = 1 ∨ E = "java/lang/IllegalArgumentException" ∧ cd = 2 ∨ E = "java/lang/IllegalStateException" ∧ cd = 3) ∧ f_X8_renewCredential S V x1 x2 = some (q, S', V) ∧ S' 0 0 = cd ∧ Inv (c + 1) B P M T K U L S' V) ∨
    (∃ q K' U' L' S', f_X7_renewCredential B K U L x1 x2 = some (.inr (q, K', U', L')) ∧ f_X8_renewCredential S V x1 x2 = some (q, S', L') ∧ S' 0 0 = 0 ∧ Inv (c + 1) B P M T K' U' L' S' L') := by
  have H0 := H
  obtain ⟨⟨hB, _, RP, _, RT, RK, _⟩, i1, _, _, IT, IK, _⟩ := H0
  have hth : ∀ v, Inv (c + 1) B P M T K U L (zs S 0 v) V := fun v => H.th (eqr_zs (by omega) eqr_rf)
  have IK0 := IK
  obtain ⟨g, m, hgc, h19, hmc, h11, k5, c40, ho⟩ := IK0
  have k4 : K 4 0 = nI g := RK.1.trans h19
  unfold f_X7_renewCredential f_X8_renewCredential f_X8_renewCredential_25
  rw [rng]
  rcases has_cre k4 h19 (by omega) x1 with ⟨a1, a2⟩ | ⟨t, t2, rfl, a1, a2⟩
  · left
    exact ⟨_, 1, _, _, by rw [a1, zth_l], Or.inl ⟨rfl, rfl⟩, by rw [a2, zbs, if_pos rfl, rc_bad 1 n1le0], rfl, hth 1⟩
  · rw [a1, zth_r, a2, zbs, if_neg n10]
    by_cases h1 : x2 < 1
    · left
      exact ⟨_, 2, _, _, by rw [if_pos h1, zth_l], Or.inr (Or.inl ⟨rfl, rfl⟩), by rw [if_pos h1, rc_bad 2 n2le0], rfl, hth 2⟩
    · by_cases h2 : x2 ≤ 1000
      · have z : ∀ {α : Type} (o : Option α), zix (nI t) 520 o = o := fun o => zix_nI (show t < 520 by omega) (by decide) o
        have cm : (nI t).toNatClampNeg = t := nI_clamp (by omega)
        rw [if_neg h1, if_pos h2, zth_r, if_neg h1, if_pos h2, is_X2 k4 (by omega) t2, zbs, z, cm, RK.2.1]
        by_cases h3 : S 20 t = 0
        · left
          exact ⟨_, 3, _, _, by rw [if_pos h3, if_pos rfl], Or.inr (Or.inr ⟨rfl, rfl⟩), by rw [if_pos h3, rc_bad 3 n3le0], rfl, hth 3⟩
        · right
          rw [if_neg h3, if_neg n10, if_neg h3]
          obtain ⟨r, r1, r2, r3⟩ := prl (S := zs S 0 0) (S 23 t) (S 24 t) (S 25 t) x2
          have r2' : (if K 1 t < (if (K 0 t + K 2 t) < (S 1 0 + x2) then (K 0 t + K 2 t) else (S 1 0 + x2)) then (if (K 0 t + K 2 t) < (S 1 0 + x2) then (K 0 t + K 2 t) else (S 1 0 + x2)) else K 1 t) = r := by
            rw [RK.2.2.2.2.1, RK.2.2.2.2.2.1, RK.2.2.2.2.2.2]
            exact r2
          obtain ⟨p1, p2⟩ := pro_X2 (B0 := B 5 0) (x := x2) k4 (by omega) t2 hB r2'
          have p3 : f_X1_ownerAt (za K 1 (nI t) r) (nI t) = some (S 21 t) := by
            unfold f_X1_ownerAt
            rw [has_X2' (T := za K 1 (nI t) r) (m := g) k4 (by omega) t2, zbs, if_neg n10, zix_nI (show t < 513 by omega) (by decide), cm]
            show some (K 6 t) = _
            rw [RK.2.2.1]
          have hS : eqr 1 23 S (za (zs S 0 0) 24 (nI t) r) := eqr_za (by omega) (eqr_zs (by omega) eqr_rf)
          have hS2 : eqr 25 30 S (za (zs S 0 0) 24 (nI t) r) := eqr_za (by omega) (eqr_zs (by omega) eqr_rf)
          have e24 : (za (zs S 0 0) 24 (nI t) r) 24 = upd (S 24) t r := za_nI _ 24 (by omega) r
          have RK1 : RCre (za K 1 (nI t) r) (za (zs S 0 0) 24 (nI t) r) := by
            obtain ⟨h1, h2, h3, h4, h5, h6, h7⟩ := RK
            refine ⟨h1, h2, h3, h4, h5, ?_, h7⟩
            show upd (K 1) _ _ = upd (S 24) _ _
            rw [h6]
          have IK1 : ICre c (za K 1 (nI t) r) (za (zs S 0 0) 24 (nI t) r) := by
            refine ⟨g, m, hgc, h19, hmc, h11, k5, c40, fun j hj => ?_⟩
            rw [e24]
            refine ⟨(ho j hj).1, (ho j hj).2.1, fun hl => ⟨?_, ((ho j hj).2.2 hl).2⟩⟩
            by_cases hst : j = t
            · rw [hst, pk_us]
              exact Int32.lt_of_lt_of_le ((ho t t2).2.2 h3).1 r3
            · rw [pk_un hst]
              exact ((ho j hj).2.2 hl).1
          have IT1 : ITok c T (za (zs S 0 0) 24 (nI t) r) := IT
          obtain ⟨U', S'', L', w1, w2, w3, w4⟩ := H.wrt hc (B' := B) (c' := c) (S' := za (zs S 0 0) 24 (nI t) r) (by omega) hB (RT.of (eqr_sub hS (by omega) (by omega))) RK1 (i1.of rfl (Nat.le_refl c)) IT1 IK1 (eqr_sub hS (by omega) (by omega)) (eqr_sub hS2 (by omega) (by omega)) 1 (S 21 t) r (B 5 0) hB.symm
          refine ⟨r, za K 1 (nI t) r, U', L', S'', ?_, ?_, ?_, w4⟩
          · rw [p1, zbs, p2, zbs, p3, zbs, w1, zbs]
          · unfold f_X8_renewCredential_43
            rw [zs_in, if_pos le0_0]
            simp only [z, cm]
            rw [show f_X8_renewed (zs S 0 0) (S 23 t) (S 24 t) (S 25 t) x2 = some r from r1, zbs, e24, pk_us, w2, zbs]
            show some (S'' 24 t, S'', L') = _
            rw [w3 24 (by omega) (by omega), e24, pk_us]
          · rw [w3 0 (by omega) (by omega)]
            rfl
      · left
        exact ⟨_, 2, _, _, by rw [if_neg h1, if_neg h2, zth_l], Or.inr (Or.inl ⟨rfl, rfl⟩), by rw [if_neg h1, if_neg h2, rc_bad 2 n2le0], rfl, hth 2⟩
