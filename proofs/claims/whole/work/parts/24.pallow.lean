/-! pure: allow, clear -/
theorem al_lp {P Sc : SS} {p r : Nat} {x2 x3 x4 : Int32} (q1 : P 1 = Sc 4) (q2 : P 2 = Sc 5) (hr : 6 * p + r ≤ 48) (k : Nat) : ∀ n i : Nat, i + k = 6 * p + r → k < n → 6 * p ≤ i →
    ∃ j : Nat, i ≤ j ∧ j ≤ 6 * p + r ∧ f_X8_allow_68 n Sc (nI p) x2 x3 x4 (nI i) (nI (6 * p + r)) = f_X8_allow_103 Sc (nI p) x2 x3 x4 (nI j) (nI (6 * p + r)) ∧ f_X5_find_20 P n x2 x3 (nI (6 * p + r)) (nI i) = some (if j < 6 * p + r then nI j else -1) := by
  induction k with
  | zero =>
    intro n i hi hn hlo
    obtain ⟨n, rfl⟩ := zn_s hn
    refine ⟨i, Nat.le_refl _, by omega, ?_, ?_⟩
    · rw [f_X8_allow_68, if_pos (nI_le (show 6 * p + r ≤ i by omega) (by omega))]
    · rw [f_X5_find_20, if_pos (nI_le (show 6 * p + r ≤ i by omega) (by omega)), if_neg (show ¬ i < 6 * p + r by omega)]
  | succ k ih =>
    intro n i hi hn hlo
    obtain ⟨n, rfl⟩ := zn_s hn
    have zi : ∀ {α : Type} (o : Option α), zix (nI i) 48 o = o := fun o => zix_nI (show i < 48 by omega) (by decide) o
    have ci : (nI i).toNatClampNeg = i := nI_clamp (by omega)
    rw [f_X8_allow_68, f_X5_find_20, if_neg (nI_ge (show i < 6 * p + r by omega) (by omega)), if_neg (nI_ge (show i < 6 * p + r by omega) (by omega)), q1, q2]
    simp only [zi, ci, nI_1]
    by_cases h1 : Sc 4 i = x2
    · by_cases h2 : Sc 5 i = x3
      · refine ⟨i, Nat.le_refl _, by omega, ?_, ?_⟩
        · rw [if_pos h1, if_pos h2]
        · rw [if_pos h1, if_pos h2, if_pos (show i < 6 * p + r by omega)]
      · obtain ⟨j, j1, j2, j3, j4⟩ := ih n (i + 1) (by omega) (by omega) (by omega)
        exact ⟨j, by omega, j2, by rw [if_pos h1, if_neg h2]; exact j3, by rw [if_pos h1, if_neg h2]; exact j4⟩
    · obtain ⟨j, j1, j2, j3, j4⟩ := ih n (i + 1) (by omega) (by omega) (by omega)
      exact ⟨j, by omega, j2, by rw [if_neg h1]; exact j3, by rw [if_neg h1]; exact j4⟩
theorem IPol.put {S S' : SS} {np p j : Nat} {r r' : Nat} {x2 x3 x4 : Int32} (hn : np ≤ 8) (h2 : S 2 0 = nI np) (I : ∀ p : Nat, p < 8 → ∃ r : Nat, r ≤ 6 ∧ S 3 p = nI r ∧ ∀ j : Nat, j < r → isP (S 4 (6 * p + j)) ∧ (S 5 (6 * p + j) = 0 ∨ S 5 (6 * p + j) = 1)) (hp : p < 8) (hr : S 3 p = nI r) (hr6 : r ≤ 6) (hj : j < 6) (hr' : r' ≤ 6) (hrr : r' = r ∨ r' = r + 1 ∧ j = r)
    (e2 : S' 2 = S 2) (e3 : S' 3 = upd (S 3) p (nI r')) (e4 : S' 4 = upd (S 4) (6 * p + j) x2) (e5 : S' 5 = upd (S 5) (6 * p + j) x3) (hx2 : isP x2) (hx3 : x3 = 0 ∨ x3 = 1) : IPol S' := by
  refine ⟨np, hn, by rw [e2]; exact h2, fun q hq => ?_⟩
  rw [e3, e4, e5]
  by_cases hqp : q = p
  · subst hqp
    refine ⟨r', hr', pk_us, fun i hi => ?_⟩
    obtain ⟨r0, _, z2, z3⟩ := I q hq
    have : r0 = r := (nI_eq (by omega) (by omega)).mp (z2.symm.trans hr)
    subst this
    by_cases hij : i = j
    · subst hij
      rw [pk_us, pk_us]
      exact ⟨hx2, hx3⟩
    · rw [pk_un (show 6 * q + i ≠ 6 * q + j by omega), pk_un (show 6 * q + i ≠ 6 * q + j by omega)]
      exact z3 i (by omega)
  · obtain ⟨r0, z1, z2, z3⟩ := I q hq
    refine ⟨r0, z1, (pk_un hqp).trans z2, fun i hi => ?_⟩
    rw [pk_un (show 6 * q + i ≠ 6 * p + j by omega), pk_un (show 6 * q + i ≠ 6 * p + j by omega)]
    exact z3 i hi
theorem vnb {x : Int32} (h : x = 0 ∨ x = 1) : vp_nar .boolean x = x := by
  rcases h with h | h
  · subst h; exact vn0
  · subst h; exact vn1
theorem rng {x lo hi : Int32} : f_X7_checkRange x lo hi = (if x < lo then some (.inl "java/lang/IllegalArgumentException") else if x ≤ hi then some (.inr ()) else some (.inl "java/lang/IllegalArgumentException")) := rfl
theorem zth_l {α β : Type} (E : String) (k : α → Option (String ⊕ β)) : zth (some (.inl E)) k = some (.inl E) := rfl
theorem zth_r {α β : Type} (u : α) (k : α → Option (String ⊕ β)) : zth (some (.inr u)) k = k u := rfl
theorem n10 : ¬ (1 : Int32) = 0 := by decide
theorem n1le0 : ¬ (1 : Int32) ≤ 0 := by decide
theorem n2le0 : ¬ (2 : Int32) ≤ 0 := by decide
theorem n3le0 : ¬ (3 : Int32) ≤ 0 := by decide
theorem fnd_eq {P : SS} {np p r : Nat} {x2 x3 f : Int32} (h4 : P 4 0 = nI np) (hn : np ≤ 8) (hp : p < np) (hr : P 0 p = nI r) (hf : f_X5_find_20 P 600 x2 x3 (nI (6 * p + r)) (nI (6 * p)) = some f) : f_X5_find P (nI p) x2 x3 = some f := by
  unfold f_X5_find
  rw [rul_X5 h4 hn hp, zbs, hr, nI_m6, nI_add]
  exact hf
theorem st_allow {c : Nat} {B P M T K U : SS} {L : SL} {S : SS} {V : SL} (H : Inv c B P M T K U L S V) (x1 x2 x3 x4 : Int32) (hx3 : x3 = 0 ∨ x3 = 1) :
    (∃ E cd q S', f_X7_allow P x1 x2 x3 x4 = some (.inl E) ∧ (E = "java/lang/IndexOutOfBoundsException" ∧ cd = 1 ∨ E = "java/lang/IllegalArgumentException" ∧ cd = 2 ∨ E = "java/lang/IllegalStateException" ∧ cd = 3) ∧ f_X8_allow S x1 x2 x3 x4 = some (q, S') ∧ S' 0 0 = cd ∧ Inv (c + 1) B P M T K U L S' V) ∨
    (∃ q P' S', f_X7_allow P x1 x2 x3 x4 = some (.inr (q, P')) ∧ f_X8_allow S x1 x2 x3 x4 = some (q, S') ∧ S' 0 0 = 0 ∧ Inv (c + 1) B P' M T K U L S' V) := by
  have H0 := H
  obtain ⟨⟨_, _, R, _⟩, _, ⟨np, hn, h2, I⟩, _⟩ := H0
  have h4 : P 4 0 = nI np := R.1.trans h2
  have hth : ∀ v, Inv (c + 1) B P M T K U L (zs S 0 v) V := fun v => H.th (eqr_zs (by omega) eqr_rf)
  unfold f_X7_allow f_X8_allow f_X7_checkPolicy
  rcases has_X5 h4 h2 (by omega) x1 with ⟨a1, a2⟩ | ⟨p, hp, rfl, a1, a2⟩
  · left
    refine ⟨_, 1, _, _, by rw [a1, zbs, if_pos rfl, zth_l], Or.inl ⟨rfl, rfl⟩, by rw [a2, zbs, if_pos rfl]; unfold f_X8_allow_39; rw [zs_in, if_neg n1le0], rfl, hth 1⟩
  · rw [a1, a2, zbs, if_neg n10, zth_r, zbs, if_neg n10]
    obtain ⟨f, f1, f2, f3⟩ := ptn x2
    rw [f1, zbs, f2, zbs]
    rcases f3 with f3 | ⟨f3, hx2⟩
    · left
      refine ⟨_, 2, _, _, by rw [if_pos f3], Or.inr (Or.inl ⟨rfl, rfl⟩), by rw [if_pos f3]; unfold f_X8_allow_34 f_X8_allow_39; rw [zs_in, if_neg n2le0], rfl, hth 2⟩
    · have hf0 : ¬ f = 0 := by rw [f3]; decide
      rw [if_neg hf0, if_neg hf0, rng]
      by_cases hb : x4 < 0
      · left
        refine ⟨_, 2, _, _, by rw [if_pos hb, zth_l], Or.inr (Or.inl ⟨rfl, rfl⟩), by rw [if_pos hb]; unfold f_X8_allow_34 f_X8_allow_39; rw [zs_in, if_neg n2le0], rfl, hth 2⟩
      · rw [if_neg hb, if_neg hb]
        by_cases hb2 : x4 ≤ 15
        · rw [if_pos hb2, if_pos hb2, zth_r]
          have hp8 : p < 8 := by omega
          obtain ⟨r, hr6, h3, _⟩ := I p hp8
          have h0p : P 0 p = nI r := by rw [R.2.1]; exact h3
          have zp : ∀ {α : Type} (o : Option α), zix (nI p) 8 o = o := fun o => zix_nI hp8 (by decide) o
          have cp : (nI p).toNatClampNeg = p := nI_clamp (by omega)
          obtain ⟨j, j1, j2, j3, j4⟩ := al_lp (P := P) (Sc := zs S 0 0) (x2 := x2) (x3 := x3) (x4 := x4) R.2.2.1 R.2.2.2.1 (show 6 * p + r ≤ 48 by omega) r 600 (6 * p) rfl (by omega) (Nat.le_refl _)
          have hfi := fnd_eq h4 hn hp h0p j4
          unfold f_X8_allow_39
          rw [zs_in, if_pos le0_0, zp, cp, h3, nI_6m, nI_add, j3, hfi, zbs]
          unfold f_X8_allow_103 f_X8_allow_128 f_X8_allow_147
          by_cases hjr : j < 6 * p + r
          · -- the rule is there
            right
            have zj : ∀ {α : Type} (o : Option α), zix (nI j) 48 o = o := fun o => zix_nI (show j < 48 by omega) (by decide) o
            have cj : (nI j).toNatClampNeg = j := nI_clamp (by omega)
            have hj1 : ¬ nI j = -1 := nI_nm1 j (by omega)
            have hjn : ¬ nI j = nI (6 * p + r) := nI_ne (by omega) (by omega) (by omega)
            have hput : f_X5_put P (nI p) x2 x3 x4 = some (za (za (za P 1 (nI j) x2) 2 (nI j) (vp_nar .boolean x3)) 3 (nI j) x4) := by
              unfold f_X5_put
              rw [hfi, zbs, if_pos hjr, if_neg hj1, if_neg hj1, zj, zj, zj]
            rw [if_pos hjr, if_neg hj1, hput, zbs, rul_X5 (P := za (za (za P 1 (nI j) x2) 2 (nI j) (vp_nar .boolean x3)) 3 (nI j) x4) (show _ = nI np from h4) hn hp, zbs, if_neg hjn, if_neg hjn, zp, cp, zp, zj, zj, zj, zp]
            rw [show (zs S 0 0) 3 p + 0 = nI r by rw [show zs S 0 0 3 p = nI r from h3, nI_p0]]
            refine ⟨P 0 p, _, za (za (za (za (zs S 0 0) 3 (nI p) (nI r)) 4 (nI j) x2) 5 (nI j) (vp_nar .boolean x3)) 6 (nI j) x4, rfl, ?_, rfl, ?_⟩
            · show some (upd (S 3) (nI p).toNatClampNeg (nI r) p, za (za (za (za (zs S 0 0) 3 (nI p) (nI r)) 4 (nI j) x2) 5 (nI j) (vp_nar .boolean x3)) 6 (nI j) x4) = _
              rw [cp, pk_us, h0p]
            · refine H.pol ?_ ?_ rfl (eqr_za (by omega) (eqr_za (by omega) (eqr_za (by omega) (eqr_za (by omega) (eqr_zs (by omega) eqr_rf)))))
              · refine ⟨R.1, ?_, ?_, ?_, ?_⟩
                · show P 0 = upd (S 3) (nI p).toNatClampNeg (nI r)
                  rw [cp, upd_same h3]; exact R.2.1
                · show upd (P 1) _ _ = upd (S 4) _ _
                  rw [R.2.2.1]
                · show upd (P 2) _ _ = upd (S 5) _ _
                  rw [R.2.2.2.1]
                · show upd (P 3) _ _ = upd (S 6) _ _
                  rw [R.2.2.2.2]
              · refine IPol.put (r := r) (r' := r) (j := j - 6 * p) (x4 := x4) hn h2 I hp8 h3 hr6 (by omega) hr6 (Or.inl rfl) rfl ?_ ?_ ?_ hx2 hx3
                · show upd (S 3) (nI p).toNatClampNeg (nI r) = _
                  rw [cp]
                · show upd (S 4) (nI j).toNatClampNeg x2 = _
                  rw [cj, show 6 * p + (j - 6 * p) = j by omega]
                · show upd (S 5) (nI j).toNatClampNeg (vp_nar .boolean x3) = _
                  rw [cj, vnb hx3, show 6 * p + (j - 6 * p) = j by omega]
          · have hj : j = 6 * p + r := by omega
            subst hj
            rw [if_neg hjr, if_pos rfl, if_pos rfl, if_pos rfl, zp, cp, rul_X5 h4 hn hp, zbs, h0p, show (zs S 0 0) 3 p = nI r from h3]
            by_cases hr : r = 6
            · left
              subst hr
              refine ⟨_, 3, _, _, by rw [if_neg (show ¬ nI 6 < 6 by decide)], Or.inr (Or.inr ⟨rfl, rfl⟩), by rw [if_pos (show nI 6 = 6 from rfl)], rfl, H.th (eqr_zs (by omega) (eqr_zs (by omega) eqr_rf))⟩
            · right
              have hj48 : 6 * p + r < 48 := by omega
              have zj : ∀ {α : Type} (o : Option α), zix (nI (6 * p + r)) 48 o = o := fun o => zix_nI hj48 (by decide) o
              have cj : (nI (6 * p + r)).toNatClampNeg = 6 * p + r := nI_clamp (by omega)
              have hadd : f_X5_addRule P (nI p) = some (nI (6 * p + r), za P 0 (nI p) (nI (r + 1))) := by
                unfold f_X5_addRule
                rw [has_X5' h4 (by omega) hp, zbs, if_neg n10, zp, cp, h0p, if_pos (show nI r < 6 from nI_lt (b := 6) (by omega) (by decide)), zp, zp, zp, nI_1]
                show some (nI p * 6 + upd (P 0) (nI p).toNatClampNeg (nI (r + 1)) p - 1, _) = _
                rw [cp, pk_us, nI_m6, nI_add, nI_m1 (by omega)]
                rfl
              have hput : f_X5_put P (nI p) x2 x3 x4 = some (za (za (za (za P 0 (nI p) (nI (r + 1))) 1 (nI (6 * p + r)) x2) 2 (nI (6 * p + r)) (vp_nar .boolean x3)) 3 (nI (6 * p + r)) x4) := by
                unfold f_X5_put
                rw [hfi, zbs, if_neg hjr, if_pos rfl, hadd, zbs, if_neg (nI_nm1 (6 * p + r) (by omega)), zj, zj, zj]
              rw [if_pos (show nI r < 6 from nI_lt (b := 6) (by omega) (by decide)), hput, zbs, rul_X5 (P := za (za (za (za P 0 (nI p) (nI (r + 1))) 1 (nI (6 * p + r)) x2) 2 (nI (6 * p + r)) (vp_nar .boolean x3)) 3 (nI (6 * p + r)) x4) (show _ = nI np from h4) hn hp, zbs, if_neg (show ¬ nI r = 6 from nI_ne (b := 6) (by omega) (by decide) hr), zp, zp, zj, zj, zj, zp, nI_1]
              refine ⟨nI (r + 1), za (za (za (za P 0 (nI p) (nI (r + 1))) 1 (nI (6 * p + r)) x2) 2 (nI (6 * p + r)) (vp_nar .boolean x3)) 3 (nI (6 * p + r)) x4, za (za (za (za (zs S 0 0) 3 (nI p) (nI (r + 1))) 4 (nI (6 * p + r)) x2) 5 (nI (6 * p + r)) (vp_nar .boolean x3)) 6 (nI (6 * p + r)) x4, ?_, ?_, rfl, ?_⟩
              · show some (Sum.inr (upd (P 0) (nI p).toNatClampNeg (nI (r + 1)) p, _)) = _
                rw [cp, pk_us]
              · show some (upd (S 3) (nI p).toNatClampNeg (nI (r + 1)) p, _) = _
                rw [cp, pk_us]
              refine H.pol ?_ ?_ rfl (eqr_za (by omega) (eqr_za (by omega) (eqr_za (by omega) (eqr_za (by omega) (eqr_zs (by omega) eqr_rf)))))
              · refine ⟨R.1, ?_, ?_, ?_, ?_⟩
                · show upd (P 0) _ _ = upd (S 3) _ _
                  rw [R.2.1]
                · show upd (P 1) _ _ = upd (S 4) _ _
                  rw [R.2.2.1]
                · show upd (P 2) _ _ = upd (S 5) _ _
                  rw [R.2.2.2.1]
                · show upd (P 3) _ _ = upd (S 6) _ _
                  rw [R.2.2.2.2]
              · refine IPol.put (r := r) (r' := r + 1) (j := r) (x4 := x4) hn h2 I hp8 h3 hr6 (by omega) (by omega) (Or.inr ⟨rfl, rfl⟩) rfl ?_ ?_ ?_ hx2 hx3
                · show upd (S 3) (nI p).toNatClampNeg (nI (r + 1)) = _
                  rw [cp]
                · show upd (S 4) (nI (6 * p + r)).toNatClampNeg x2 = _
                  rw [cj]
                · show upd (S 5) (nI (6 * p + r)).toNatClampNeg (vp_nar .boolean x3) = _
                  rw [cj, vnb hx3]
        · left
          refine ⟨_, 2, _, _, by rw [if_neg hb2, zth_l], Or.inr (Or.inl ⟨rfl, rfl⟩), by rw [if_neg hb2]; unfold f_X8_allow_34 f_X8_allow_39; rw [zs_in, if_neg n2le0], rfl, hth 2⟩
theorem st_clear {c : Nat} {B P M T K U : SS} {L : SL} {S : SS} {V : SL} (H : Inv c B P M T K U L S V) (x1 : Int32) :
    (∃ q S', f_X7_clear P x1 = some (.inl "java/lang/IndexOutOfBoundsException") ∧ f_X8_clear S x1 = some (q, S') ∧ S' 0 0 = 1 ∧ Inv (c + 1) B P M T K U L S' V) ∨
    (∃ q P' S', f_X7_clear P x1 = some (.inr (q, P')) ∧ f_X8_clear S x1 = some (q, S') ∧ S' 0 0 = 0 ∧ Inv (c + 1) B P' M T K U L S' V) := by
  have H0 := H
  obtain ⟨⟨_, _, R, _⟩, _, ⟨np, hn, h2, I⟩, _⟩ := H0
  have h4 : P 4 0 = nI np := R.1.trans h2
  unfold f_X7_clear f_X8_clear f_X7_checkPolicy
  rcases has_X5 h4 h2 (by omega) x1 with ⟨a1, a2⟩ | ⟨p, hp, rfl, a1, a2⟩
  · left
    exact ⟨_, _, by rw [a1, zbs, if_pos rfl, zth_l], by rw [a2, zbs, if_pos rfl, zs_in, if_neg n1le0], rfl, H.th (eqr_zs (by omega) eqr_rf)⟩
  · right
    have hp8 : p < 8 := by omega
    have zp : ∀ {α : Type} (o : Option α), zix (nI p) 8 o = o := fun o => zix_nI hp8 (by decide) o
    have cp : (nI p).toNatClampNeg = p := nI_clamp (by omega)
    have hem : f_X5_empty P (nI p) = some (za P 0 (nI p) 0) := by
      unfold f_X5_empty
      rw [a1, zbs, if_neg n10, zp]
    rw [a1, a2, zbs, if_neg n10, zth_r, rul_X5 h4 hn hp, zbs, hem, zbs, zbs, if_neg n10, zs_in, if_pos le0_0, zp, zp, cp, R.2.1]
    refine ⟨_, _, _, rfl, rfl, rfl, H.pol ?_ ?_ rfl (eqr_za (by omega) (eqr_zs (by omega) eqr_rf))⟩
    · refine ⟨R.1, ?_, R.2.2.1, R.2.2.2.1, R.2.2.2.2⟩
      show upd (P 0) _ _ = upd (S 3) _ _
      rw [R.2.1]
    · refine ⟨np, hn, h2, fun q hq => ?_⟩
      show ∃ r : Nat, r ≤ 6 ∧ upd (S 3) (nI p).toNatClampNeg 0 q = nI r ∧ ∀ j : Nat, j < r → isP (S 4 (6 * q + j)) ∧ (S 5 (6 * q + j) = 0 ∨ S 5 (6 * q + j) = 1)
      rw [cp]
      by_cases hqp : q = p
      · subst hqp
        exact ⟨0, by omega, pk_us, fun j hj => absurd hj (Nat.not_lt_zero j)⟩
      · rw [pk_un hqp]
        exact I q hq
