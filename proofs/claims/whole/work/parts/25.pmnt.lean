/-! pure: mounts -/
theorem Inv.mnt {c : Nat} {B P M T K U : SS} {L : SL} {S : SS} {V : SL} (h : Inv c B P M T K U L S V) {M' S' : SS} (R : RMnt M' S') (I : IMnt S') (q1 : S' 1 = S 1) (q0 : eqr 2 6 S S') (q : eqr 11 30 S S') : Inv (c + 1) B P M' T K U L S' V := by
  obtain ⟨⟨h1, h2, h3, h4, h5, h6, h7⟩, i1, i2, i3, i4, i5, i6⟩ := h
  exact ⟨⟨by rw [q1]; exact h1, h2, h3.of q0, R, h5.of (eqr_sub q (by omega) (by omega)), h6.of (eqr_sub q (by omega) (by omega)), h7.of (eqr_sub q (by omega) (by omega))⟩,
    i1.of q1 (by omega), i2.of q0, I, i4.of q1 (eqr_sub q (by omega) (by omega)) (by omega), i5.of q1 (eqr_sub q (by omega) (by omega)) (by omega), i6.of (q 26 (by omega) (by omega)) (by omega)⟩
theorem mt_lp {M Sc : SS} {nm : Nat} {x1 x2 x3 : Int32} (q1 : M 0 = Sc 8) (q3 : M 3 0 = nI nm) (q7 : Sc 7 0 = nI nm) (hm : nm ≤ 6) (k : Nat) : ∀ n i : Nat, i + k = nm → k < n →
    ∃ j : Nat, j ≤ nm ∧ f_X8_mount_3 n Sc x1 x2 x3 (nI i) = f_X8_mount_29 Sc x1 x2 x3 (nI j) ∧ f_X3_find_2 M n x1 (nI i) = some (if j < nm then nI j else -1) := by
  induction k with
  | zero =>
    intro n i hi hn
    obtain ⟨n, rfl⟩ := zn_s hn
    refine ⟨i, by omega, ?_, ?_⟩
    · rw [f_X8_mount_3, q7, if_pos (nI_le (show nm ≤ i by omega) (by omega))]
    · rw [f_X3_find_2, q3, if_pos (nI_le (show nm ≤ i by omega) (by omega)), if_neg (show ¬ i < nm by omega)]
  | succ k ih =>
    intro n i hi hn
    obtain ⟨n, rfl⟩ := zn_s hn
    have zi : ∀ {α : Type} (o : Option α), zix (nI i) 6 o = o := fun o => zix_nI (show i < 6 by omega) (by decide) o
    rw [f_X8_mount_3, f_X3_find_2, q7, q3, if_neg (nI_ge (show i < nm by omega) (by omega)), if_neg (nI_ge (show i < nm by omega) (by omega)), q1, zi, zi, nI_clamp (show i < 2 ^ 31 by omega), nI_1]
    by_cases h1 : Sc 8 i = x1
    · exact ⟨i, by omega, by rw [if_pos h1], by rw [if_pos h1, if_pos (show i < nm by omega)]⟩
    · rw [if_neg h1, if_neg h1]
      exact ih n (i + 1) (by omega) (by omega)
theorem IMnt.put {S S' : SS} {nm nm' j : Nat} {x1 x2 : Int32} (I : ∀ j : Nat, j < nm → isP (S 8 j) ∧ ∃ k : Nat, 1 ≤ k ∧ k ≤ 1000 ∧ S 9 j = nI k) (hn : nm' ≤ 6) (hnn : nm' = nm ∧ j < nm ∨ nm' = nm + 1 ∧ j = nm)
    (e7 : S' 7 0 = nI nm') (e8 : S' 8 = upd (S 8) j x1) (e9 : S' 9 = upd (S 9) j x2) (h1 : isP x1) (h2 : ∃ k : Nat, 1 ≤ k ∧ k ≤ 1000 ∧ x2 = nI k) : IMnt S' := by
  refine ⟨nm', hn, e7, fun i hi => ?_⟩
  rw [e8, e9]
  by_cases hij : i = j
  · subst hij
    rw [pk_us, pk_us]
    exact ⟨h1, h2⟩
  · rw [pk_un hij, pk_un hij]
    exact I i (by omega)
theorem mt_61 (Sc : SS) (x1 x2 x3 : Int32) {j nm : Nat} (hj : j < 6) (hnm : nm ≤ 6) (h7 : Sc 7 0 = nI nm) : f_X8_mount_61 Sc x1 x2 x3 (nI j) 0 = some (nI (if j = nm then nm + 1 else nm), za (za (za (zs (zs Sc 0 0) 7 (nI (if j = nm then nm + 1 else nm))) 8 (nI j) x1) 9 (nI j) x2) 10 (nI j) x3) := by
  have zj : ∀ {α : Type} (o : Option α), zix (nI j) 6 o = o := fun o => zix_nI hj (by decide) o
  unfold f_X8_mount_61 f_X8_mount_92
  rw [zs_in, if_pos le0_0, h7]
  by_cases h : j = nm
  · rw [if_pos (congrArg nI h), zj, zj, zj, nI_1, if_pos h]
    rfl
  · rw [if_neg (nI_ne (by omega) (by omega) h), zj, zj, zj, nI_p0, if_neg h]
    rfl
theorem i32_nle {x y : Int32} (h : ¬ x ≤ y) : y < x := Int32.not_le.mp h
theorem i32_nlt {x y : Int32} (h : ¬ x < y) : y ≤ x := Int32.not_lt.mp h
theorem i32_ge {x y : Int32} (h : x ≤ y) : ¬ y < x := Int32.not_lt.mpr h
theorem i32_gt {x y : Int32} (h : x < y) : ¬ y ≤ x := Int32.not_le.mpr h
theorem min_of {x : Int32} (h1 : ¬ x < 1) (h2 : x ≤ 1000) : ∃ k : Nat, 1 ≤ k ∧ k ≤ 1000 ∧ x = nI k := by
  obtain ⟨k, hk, rfl⟩ := nI_of2 (M := 1000) (n := 1000) (by decide) (fun q => h1 (i32_lt1 q)) h2
  refine ⟨k, ?_, hk, rfl⟩
  rcases (show k = 0 ∨ 1 ≤ k by omega) with h | h
  · subst h
    exact absurd (show nI 0 < 1 by decide) h1
  · exact h
/-- a lease: refused by both, or in its range -/
theorem lea (x2 x3 : Int32) : (f_X7_checkLease x2 x3 = some (.inl "java/lang/IllegalArgumentException") ∧ f_X8_isLease x2 x3 = some 0) ∨ (f_X7_checkLease x2 x3 = some (.inr ()) ∧ f_X8_isLease x2 x3 = some 1 ∧ ∃ k : Nat, 1 ≤ k ∧ k ≤ 1000 ∧ x2 = nI k) := by
  unfold f_X7_checkLease f_X8_isLease
  rw [rng, rng]
  by_cases h1 : x2 < 1
  · exact Or.inl ⟨by rw [if_pos h1, zth_l], by rw [if_pos h1]⟩
  · by_cases h2 : x2 ≤ 1000
    · by_cases h3 : x3 < x2
      · exact Or.inl ⟨by rw [if_neg h1, if_pos h2, zth_r, if_pos h3, zth_l], by rw [if_neg h1, if_neg (i32_ge h2), if_pos h3]⟩
      · by_cases h4 : x3 ≤ 5000
        · exact Or.inr ⟨by rw [if_neg h1, if_pos h2, zth_r, if_neg h3, if_pos h4, zth_r], by rw [if_neg h1, if_neg (i32_ge h2), if_neg h3, if_neg (i32_ge h4)], min_of h1 h2⟩
        · exact Or.inl ⟨by rw [if_neg h1, if_pos h2, zth_r, if_neg h3, if_neg h4, zth_l], by rw [if_neg h1, if_neg (i32_ge h2), if_neg h3, if_pos (i32_nle h4)]⟩
    · exact Or.inl ⟨by rw [if_neg h1, if_neg h2, zth_l], by rw [if_neg h1, if_pos (i32_nle h2)]⟩
theorem st_mount {c : Nat} {B P M T K U : SS} {L : SL} {S : SS} {V : SL} (H : Inv c B P M T K U L S V) (x1 x2 x3 : Int32) :
    (∃ E cd q S', f_X7_mount M x1 x2 x3 = some (.inl E) ∧ (E = "java/lang/IllegalArgumentException" ∧ cd = 1 ∨ E = "java/lang/IllegalStateException" ∧ cd = 2) ∧ f_X8_mount S x1 x2 x3 = some (q, S') ∧ S' 0 0 = cd ∧ Inv (c + 1) B P M T K U L S' V) ∨
    (∃ q M' S', f_X7_mount M x1 x2 x3 = some (.inr (q, M')) ∧ f_X8_mount S x1 x2 x3 = some (q, S') ∧ S' 0 0 = 0 ∧ Inv (c + 1) B P M' T K U L S' V) := by
  have H0 := H
  obtain ⟨⟨_, _, _, R, _⟩, _, _, ⟨nm, hn, h7, I⟩, _⟩ := H0
  have h3 : M 3 0 = nI nm := R.1.trans h7
  have hth : ∀ v, Inv (c + 1) B P M T K U L (zs S 0 v) V := fun v => H.th (eqr_zs (by omega) eqr_rf)
  obtain ⟨j, j1, j2, j3⟩ := mt_lp (M := M) (Sc := S) (x1 := x1) (x2 := x2) (x3 := x3) R.2.1 h3 h7 hn nm 600 0 (Nat.zero_add nm) (by omega)
  have hfi : f_X3_find M x1 = some (if j < nm then nI j else -1) := j3
  have hmo : f_X8_mount S x1 x2 x3 = f_X8_mount_29 S x1 x2 x3 (nI j) := j2
  rw [hmo]
  unfold f_X7_mount f_X8_mount_29 f_X7_checkPath f_X8_mount_45
  obtain ⟨f, f1, f2, f3⟩ := pth x1
  rw [f1, zbs, f2, zbs]
  have h61 : ∀ (v : Int32), ¬ v ≤ 0 → f_X8_mount_61 S x1 x2 x3 (nI j) v = some (0, zs S 0 v) := fun v hv => by
    unfold f_X8_mount_61
    rw [zs_in, if_neg hv]
  rcases f3 with f3 | ⟨f3, hx1⟩
  · left
    exact ⟨_, 1, _, _, by rw [if_pos f3, zth_l], Or.inl ⟨rfl, rfl⟩, by rw [if_pos f3, h61 1 n1le0], rfl, hth 1⟩
  · have hf0 : ¬ f = 0 := by rw [f3]; decide
    rw [if_neg hf0, if_neg hf0, zth_r]
    rcases lea x2 x3 with ⟨l1, l2⟩ | ⟨l1, l2, hk⟩
    · left
      exact ⟨_, 1, _, _, by rw [l1, zth_l], Or.inl ⟨rfl, rfl⟩, by rw [l2, zbs, if_pos rfl, h61 1 n1le0], rfl, hth 1⟩
    · rw [l1, l2, zth_r, zbs, if_neg n10, hfi, zbs]
      by_cases hj : j < nm
      · right
        have hj1 : ¬ nI j = -1 := nI_nm1 j (by omega)
        have zj : ∀ {α : Type} (o : Option α), zix (nI j) 6 o = o := fun o => zix_nI (show j < 6 by omega) (by decide) o
        have cj : (nI j).toNatClampNeg = j := nI_clamp (by omega)
        have hput : f_X3_put M x1 x2 x3 = some (za (za (za M 0 (nI j) x1) 1 (nI j) x2) 2 (nI j) x3) := by
          unfold f_X3_put f_X3_put_38
          rw [hfi, zbs, if_pos hj, if_neg hj1, if_neg hj1, zj, zj, zj]
        rw [if_pos hj, if_neg hj1, hput, zbs, if_neg (show ¬ nI j = 6 from nI_ne (b := 6) (by omega) (by decide) (by omega)), mt_61 S x1 x2 x3 (by omega) hn h7, if_neg (show ¬ j = nm by omega)]
        unfold f_X3_count
        rw [zbs]
        refine ⟨nI nm, _, _, ?_, rfl, rfl, H.mnt (M' := za (za (za M 0 (nI j) x1) 1 (nI j) x2) 2 (nI j) x3) ?_ ?_ rfl (eqr_za (by omega) (eqr_za (by omega) (eqr_za (by omega) (eqr_zs (by omega) (eqr_zs (by omega) eqr_rf))))) (eqr_za (by omega) (eqr_za (by omega) (eqr_za (by omega) (eqr_zs (by omega) (eqr_zs (by omega) eqr_rf)))))⟩
        · show some (Sum.inr (M 3 0, _)) = _
          rw [h3]
        · refine ⟨h3, ?_, ?_, ?_⟩
          · show upd (M 0) _ _ = upd (S 8) _ _
            rw [R.2.1]
          · show upd (M 1) _ _ = upd (S 9) _ _
            rw [R.2.2.1]
          · show upd (M 2) _ _ = upd (S 10) _ _
            rw [R.2.2.2]
        · refine IMnt.put (S := S) (nm := nm) (nm' := nm) (j := j) (x1 := x1) (x2 := x2) I hn (Or.inl ⟨rfl, hj⟩) rfl ?_ ?_ hx1 hk
          · show upd (S 8) (nI j).toNatClampNeg x1 = _
            rw [cj]
          · show upd (S 9) (nI j).toNatClampNeg x2 = _
            rw [cj]
      · have hjn : j = nm := by omega
        subst hjn
        rw [if_neg hj, if_pos rfl]
        unfold f_X3_count
        rw [zbs, h3]
        by_cases h6 : j = 6
        · left
          subst h6
          exact ⟨_, 2, _, _, by rw [if_neg (show ¬ nI 6 < 6 by decide)], Or.inr ⟨rfl, rfl⟩, by rw [if_pos (show nI 6 = 6 from rfl), h61 2 n2le0], rfl, hth 2⟩
        · right
          have hj6 : j < 6 := by omega
          have zj : ∀ {α : Type} (o : Option α), zix (nI j) 6 o = o := fun o => zix_nI hj6 (by decide) o
          have cj : (nI j).toNatClampNeg = j := nI_clamp (by omega)
          have hput : f_X3_put M x1 x2 x3 = some (za (za (za (zs M 3 (nI (j + 1))) 0 (nI j) x1) 1 (nI j) x2) 2 (nI j) x3) := by
            unfold f_X3_put f_X3_put_38
            rw [hfi, zbs, if_neg hj, if_pos rfl, h3, if_neg (show ¬ (6 : Int32) ≤ nI j from nI_ge (b := 6) hj6 (by decide)), if_neg (nI_nm1 j (by omega)), zj, zj, zj, nI_1]
          rw [if_pos (show nI j < 6 from nI_lt (b := 6) hj6 (by decide)), hput, zbs, zbs, if_neg (show ¬ nI j = 6 from nI_ne (b := 6) (by omega) (by decide) h6), mt_61 S x1 x2 x3 hj6 hn h7, if_pos rfl]
          refine ⟨nI (j + 1), za (za (za (zs M 3 (nI (j + 1))) 0 (nI j) x1) 1 (nI j) x2) 2 (nI j) x3, _, rfl, rfl, rfl, H.mnt ?_ ?_ rfl (eqr_za (by omega) (eqr_za (by omega) (eqr_za (by omega) (eqr_zs (by omega) (eqr_zs (by omega) eqr_rf))))) (eqr_za (by omega) (eqr_za (by omega) (eqr_za (by omega) (eqr_zs (by omega) (eqr_zs (by omega) eqr_rf)))))⟩
          · refine ⟨rfl, ?_, ?_, ?_⟩
            · show upd (M 0) _ _ = upd (S 8) _ _
              rw [R.2.1]
            · show upd (M 1) _ _ = upd (S 9) _ _
              rw [R.2.2.1]
            · show upd (M 2) _ _ = upd (S 10) _ _
              rw [R.2.2.2]
          · refine IMnt.put (S := S) (nm := j) (nm' := j + 1) (j := j) (x1 := x1) (x2 := x2) I (by omega) (Or.inr ⟨rfl, rfl⟩) rfl ?_ ?_ hx1 hk
            · show upd (S 8) (nI j).toNatClampNeg x1 = _
              rw [cj]
            · show upd (S 9) (nI j).toNatClampNeg x2 = _
              rw [cj]
theorem nr_lp {M S : SS} {nm a : Nat} (q1 : M 0 = S 8) (q3 : M 3 0 = nI nm) (q7 : S 7 0 = nI nm) (hm : nm ≤ 6) (I : ∀ j : Nat, j < nm → isP (S 8 j)) (ha : a < 1000000) (k : Nat) : ∀ (n i : Nat) (v : Int32), i + k = nm → k < n →
    (v = -1 ∨ ∃ s b : Nat, s < nm ∧ v = nI s ∧ b < 1000000 ∧ S 8 s = nI b ∧ Blw a b) →
    ∃ w, f_X3_nearest_4 M n (nI a) v (nI i) = some w ∧ f_X8_mountFor_4 S n (nI a) v (nI i) = some w ∧ (w = -1 ∨ ∃ s : Nat, s < nm ∧ w = nI s) := by
  induction k with
  | zero =>
    intro n i v hi hn hv
    obtain ⟨n, rfl⟩ := zn_s hn
    rw [f_X3_nearest_4, f_X8_mountFor_4, q3, q7, if_pos (nI_le (show nm ≤ i by omega) (by omega)), if_pos (nI_le (show nm ≤ i by omega) (by omega))]
    refine ⟨v, rfl, rfl, ?_⟩
    rcases hv with hv | ⟨s, b, hs, hv, _⟩
    · exact Or.inl hv
    · exact Or.inr ⟨s, hs, hv⟩
  | succ k ih =>
    intro n i v hi hn hv
    obtain ⟨n, rfl⟩ := zn_s hn
    obtain ⟨b, hb, hb8⟩ := I i (by omega)
    have zi : ∀ {α : Type} (o : Option α), zix (nI i) 6 o = o := fun o => zix_nI (show i < 6 by omega) (by decide) o
    obtain ⟨f, f1, f2, f3⟩ := blw_eq ha hb
    have ci : (nI i).toNatClampNeg = i := nI_clamp (by omega)
    rw [f_X3_nearest_4, f_X8_mountFor_4, q3, q7, if_neg (nI_ge (show i < nm by omega) (by omega)), if_neg (nI_ge (show i < nm by omega) (by omega)), q1]
    simp only [zi, ci, hb8, f1, f2, zbs, nI_1]
    rcases f3 with f3 | ⟨f3, F⟩
    · rw [if_pos f3, if_pos f3]
      exact ih n (i + 1) v (by omega) (by omega) hv
    · have hf0 : ¬ f = 0 := by rw [f3]; decide
      rw [if_neg hf0, if_neg hf0]
      have hi' : ∃ s b : Nat, s < nm ∧ nI i = nI s ∧ b < 1000000 ∧ S 8 s = nI b ∧ Blw a b := ⟨i, b, by omega, rfl, hb, hb8, F⟩
      rcases hv with hv | ⟨s, b', hs, hv, hb', hs8, F'⟩
      · rw [if_pos hv, if_pos hv]
        exact ih n (i + 1) (nI i) (by omega) (by omega) (Or.inr hi')
      · have hne : ¬ v = -1 := by rw [hv]; exact nI_nm1 s (by omega)
        rw [if_neg hne, if_neg hne]
        have zs6 : ∀ {α : Type} (o : Option α), zix v 6 o = o := fun o => by rw [hv]; exact zix_nI (show s < 6 by omega) (by decide) o
        have cs : v.toNatClampNeg = s := by rw [hv]; exact nI_clamp (by omega)
        simp only [zs6, cs, hs8, dig6 hb, dig6 hb', zbs]
        have l1 := ndf_le 6 b
        have l2 := ndf_le 6 b'
        by_cases hle : b ≤ b'
        · rw [if_pos (nI_le hle (m31 hb')), if_pos (nI_le ((blw_ord F F').mp hle) (by omega))]
          exact ih n (i + 1) v (by omega) (by omega) (Or.inr ⟨s, b', hs, hv, hb', hs8, F'⟩)
        · have hlt : ndf 6 b' < ndf 6 b := Nat.lt_of_not_le (fun q => hle ((blw_ord F F').mpr q))
          rw [if_neg (nI_ge (show b' < b by omega) (m31 hb)), if_neg (nI_ge hlt (by omega))]
          exact ih n (i + 1) (nI i) (by omega) (by omega) (Or.inr hi')
theorem nr_eq {M S : SS} {nm a : Nat} (R : RMnt M S) (h7 : S 7 0 = nI nm) (hm : nm ≤ 6) (I : ∀ j : Nat, j < nm → isP (S 8 j) ∧ ∃ k : Nat, 1 ≤ k ∧ k ≤ 1000 ∧ S 9 j = nI k) (ha : a < 1000000) :
    ∃ w, f_X3_nearest M (nI a) = some w ∧ f_X8_mountFor S (nI a) = some w ∧ (w = -1 ∨ ∃ s : Nat, s < nm ∧ w = nI s) :=
  nr_lp R.2.1 (R.1.trans h7) h7 hm (fun j hj => (I j hj).1) ha nm 600 0 (-1) (Nat.zero_add nm) (by omega) (Or.inl rfl)
