/-! pure: capabilities, request, whyDenied -/
theorem pol_X6 {T S : SS} {m t : Nat} (RT : RTok T S) (h11 : S 11 0 = nI m) (hm : m ≤ 513) (ht : t < m) : f_X6_policiesAt T (nI t) = some (S 14 t) := by
  unfold f_X6_policiesAt
  rw [has_X2' (RT.1.trans h11) (by omega) ht, zbs, if_neg n10, zix_nI (show t < 513 by omega) (by decide), nI_clamp (show t < 2 ^ 31 by omega), RT.2.2.2.1]
theorem use_X6 {T S : SS} {m t : Nat} (RT : RTok T S) (h11 : S 11 0 = nI m) (hm : m ≤ 513) (ht : t < m) : f_X6_usesAt T (nI t) = some (S 18 t) := by
  unfold f_X6_usesAt
  rw [has_X2' (RT.1.trans h11) (by omega) ht, zbs, if_neg n10, zix_nI (show t < 513 by omega) (by decide), nI_clamp (show t < 2 ^ 31 by omega), RT.2.2.2.2.2.2.2]
theorem cap_eq {P T S : SS} {m t a : Nat} (RP : RPol P S) (IP : IPol S) (RT : RTok T S) (h11 : S 11 0 = nI m) (hm : m ≤ 513) (h14 : S 14 0 = 0) (ht : t < m) (ha : a < 1000000) :
    ∃ w, f_X7_capabilitiesAt P T (nI t) (nI a) = some w ∧ f_X8_can S (nI t) (nI a) = some w := by
  obtain ⟨np, hn, h2, I⟩ := IP
  unfold f_X7_capabilitiesAt f_X8_can
  by_cases h0 : t = 0
  · subst h0
    exact ⟨7, by rw [if_pos nI_0], by rw [if_pos nI_0]; exact tg_root h2 hn h14 np 600 0 (Nat.zero_add np) (by omega)⟩
  · obtain ⟨w, w1, w2⟩ := tg_lp (P := P) (S := S) (t := t) (pol := S 14 t) RP h2 hn I (by omega) rfl ha np 600 0 0 (Nat.zero_add np) (by omega)
    have w1' : f_X5_together P (S 14 t) (nI a) = some w := w1
    rw [if_neg (nI_ne0 (by omega) (by omega)), if_neg (nI_ne0 (by omega) (by omega)), pol_X6 RT h11 hm ht, zbs, w1', zbs]
    refine ⟨if w &&& 8 = 0 then w else 0, ?_, w2⟩
    by_cases h8 : w &&& 8 = 0
    · rw [if_pos h8, if_pos h8]
    · rw [if_neg h8, if_neg h8]
theorem rea_eq {P M T S : SS} {m t a : Nat} (RP : RPol P S) (IP : IPol S) (RM : RMnt M S) (IM : IMnt S) (RT : RTok T S) (h11 : S 11 0 = nI m) (hm : m ≤ 513) (h14 : S 14 0 = 0) (ht : t < m) (ha : a < 1000000) :
    ∃ w, f_X7_reasonAgainst P M T (nI t) (nI a) = some w ∧ f_X8_reason S (nI t) (nI a) = some w ∧ (w = 0 ∧ S 12 t ≠ 0 ∧ (∃ s k : Nat, s < 6 ∧ f_X3_nearest M (nI a) = some (nI s) ∧ f_X8_mountFor S (nI a) = some (nI s) ∧ f_X3_minutesAt M (nI s) = some (S 9 s) ∧ f_X3_boundAt M (nI s) = some (S 10 s) ∧ 1 ≤ k ∧ k ≤ 1000 ∧ S 9 s = nI k) ∨ ¬ w ≤ 0) := by
  have t4 : T 4 0 = nI m := RT.1.trans h11
  have z : ∀ {α : Type} (o : Option α), zix (nI t) 520 o = o := fun o => zix_nI (show t < 520 by omega) (by decide) o
  have cm : (nI t).toNatClampNeg = t := nI_clamp (by omega)
  unfold f_X7_reasonAgainst f_X8_reason
  rw [is_X2 t4 hm ht, zbs, RT.2.1, z, z, cm]
  by_cases h1 : S 12 t = 0
  · exact ⟨1, by rw [if_pos h1, if_pos rfl], by rw [if_pos h1], Or.inr n1le0⟩
  · rw [if_neg h1, if_neg n10, if_neg h1, use_X6 RT h11 hm ht, zbs]
    by_cases h2 : S 18 t = 0
    · exact ⟨2, by rw [if_pos h2], by rw [if_pos h2], Or.inr n2le0⟩
    · rw [if_neg h2, if_neg h2]
      obtain ⟨nm, hnm, h7, I⟩ := IM
      obtain ⟨q, q1, q2, q3⟩ := nr_eq RM h7 hnm I ha
      rw [q1, zbs, q2, zbs]
      rcases q3 with q3 | ⟨s, s1, q3⟩
      · exact ⟨3, by rw [if_pos q3], by rw [if_pos q3], Or.inr n3le0⟩
      · have hne : ¬ q = -1 := by rw [q3]; exact nI_nm1 s (by omega)
        obtain ⟨w, w1, w2⟩ := cap_eq RP IP RT h11 hm h14 ht ha
        rw [if_neg hne, if_neg hne, w1, zbs, w2, zbs]
        by_cases h4 : w &&& 1 = 0
        · exact ⟨4, by rw [if_pos h4], by rw [if_pos h4], Or.inr (by decide)⟩
        · refine ⟨0, by rw [if_neg h4], by rw [if_neg h4], Or.inl ⟨rfl, h1, s, ?_⟩⟩
          obtain ⟨k, k1, k2, k3⟩ := (I s s1).2
          have h3 : M 3 0 = nI nm := RM.1.trans h7
          have hh : f_X3_has M (nI s) = some 1 := by
            unfold f_X3_has
            rw [h3, if_neg (nI_pos (by omega)), if_neg (nI_ge s1 (by omega))]
          refine ⟨k, by omega, by rw [← q3], by rw [← q3], ?_, ?_, k1, k2, k3⟩
          · unfold f_X3_minutesAt
            rw [hh, zbs, if_neg n10, zix_nI (show s < 6 by omega) (by decide), nI_clamp (show s < 2 ^ 31 by omega), RM.2.2.1]
          · unfold f_X3_boundAt
            rw [hh, zbs, if_neg n10, zix_nI (show s < 6 by omega) (by decide), nI_clamp (show s < 2 ^ 31 by omega), RM.2.2.2]
theorem st_whyDenied {c : Nat} (hc : c < 512) {B P M T K U : SS} {L : SL} {S : SS} {V : SL} (H : Inv c B P M T K U L S V) (x1 x2 : Int32) :
    (∃ E cd q S', f_X7_whyDenied P M T x1 x2 = some (.inl E) ∧ (E = "java/lang/IndexOutOfBoundsException" ∧ cd = 1 ∨ E = "java/lang/IllegalArgumentException" ∧ cd = 2) ∧ f_X8_whyDenied S x1 x2 = some (q, S') ∧ S' 0 0 = cd ∧ Inv (c + 1) B P M T K U L S' V) ∨
    (∃ q S', f_X7_whyDenied P M T x1 x2 = some (.inr q) ∧ f_X8_whyDenied S x1 x2 = some (q, S') ∧ S' 0 0 = 0 ∧ Inv (c + 1) B P M T K U L S' V) := by
  have H0 := H
  obtain ⟨⟨hB, _, RP, RM, RT, RK, _⟩, i1, IP, IM, IT, IK, _⟩ := H0
  have hth : ∀ v, Inv (c + 1) B P M T K U L (zs S 0 v) V := fun v => H.th (eqr_zs (by omega) eqr_rf)
  obtain ⟨m, hm1, hmc, h11, h12, h13, h14, h16, t5, c30, hp⟩ := IT
  unfold f_X7_whyDenied f_X8_whyDenied f_X7_checkPath
  rw [zs_in, zs_in, zs_in, if_neg n1le0, if_neg n2le0, if_pos le0_0]
  rcases has_tok (RT.1.trans h11) h11 (by omega) x1 with ⟨a1, a2⟩ | ⟨t, ht, rfl, a1, a2⟩
  · exact Or.inl ⟨_, 1, _, _, by rw [a1, zth_l], Or.inl ⟨rfl, rfl⟩, by rw [a2, zbs, if_pos rfl], rfl, hth 1⟩
  · rw [a1, zth_r, a2, zbs, if_neg n10]
    obtain ⟨f, f1, f2, f3⟩ := pth x2
    rw [f1, zbs, f2, zbs]
    rcases f3 with f3 | ⟨f3, a, ha, rfl⟩
    · exact Or.inl ⟨_, 2, _, _, by rw [if_pos f3, zth_l], Or.inr ⟨rfl, rfl⟩, by rw [if_pos f3], rfl, hth 2⟩
    · right
      have hf0 : ¬ f = 0 := by rw [f3]; decide
      obtain ⟨w, w1, w2, _⟩ := rea_eq (S := zs S 0 0) (RP.of (eqr_zs (by omega) eqr_rf)) (IP.of (eqr_zs (by omega) eqr_rf)) (RM.of (eqr_zs (by omega) eqr_rf)) (IM.of (eqr_zs (by omega) eqr_rf)) (RT.of (eqr_zs (by omega) eqr_rf)) h11 (by omega) h14 ht ha
      exact ⟨w, _, by rw [if_neg hf0, zth_r, w1, zbs], by rw [if_neg hf0, w2, zbs], rfl, hth 0⟩
theorem st_capabilities {c : Nat} (hc : c < 512) {B P M T K U : SS} {L : SL} {S : SS} {V : SL} (H : Inv c B P M T K U L S V) (x1 x2 : Int32) :
    (∃ E cd q S', f_X7_capabilities P T x1 x2 = some (.inl E) ∧ (E = "java/lang/IndexOutOfBoundsException" ∧ cd = 1 ∨ E = "java/lang/IllegalArgumentException" ∧ cd = 2) ∧ f_X8_capabilities S x1 x2 = some (q, S') ∧ S' 0 0 = cd ∧ Inv (c + 1) B P M T K U L S' V) ∨
    (∃ q S', f_X7_capabilities P T x1 x2 = some (.inr q) ∧ f_X8_capabilities S x1 x2 = some (q, S') ∧ S' 0 0 = 0 ∧ Inv (c + 1) B P M T K U L S' V) := by
  have H0 := H
  obtain ⟨⟨hB, _, RP, RM, RT, RK, _⟩, i1, IP, IM, IT, IK, _⟩ := H0
  have hth : ∀ v, Inv (c + 1) B P M T K U L (zs S 0 v) V := fun v => H.th (eqr_zs (by omega) eqr_rf)
  obtain ⟨m, hm1, hmc, h11, h12, h13, h14, h16, t5, c30, hp⟩ := IT
  unfold f_X7_capabilities f_X8_capabilities f_X7_checkPath
  rw [zs_in, zs_in, zs_in, if_neg n1le0, if_neg n2le0, if_pos le0_0]
  rcases has_tok (RT.1.trans h11) h11 (by omega) x1 with ⟨a1, a2⟩ | ⟨t, ht, rfl, a1, a2⟩
  · exact Or.inl ⟨_, 1, _, _, by rw [a1, zth_l], Or.inl ⟨rfl, rfl⟩, by rw [a2, zbs, if_pos rfl], rfl, hth 1⟩
  · rw [a1, zth_r, a2, zbs, if_neg n10]
    obtain ⟨f, f1, f2, f3⟩ := pth x2
    rw [f1, zbs, f2, zbs]
    rcases f3 with f3 | ⟨f3, a, ha, rfl⟩
    · exact Or.inl ⟨_, 2, _, _, by rw [if_pos f3, zth_l], Or.inr ⟨rfl, rfl⟩, by rw [if_pos f3], rfl, hth 2⟩
    · right
      have hf0 : ¬ f = 0 := by rw [f3]; decide
      obtain ⟨w, w1, w2⟩ := cap_eq (S := zs S 0 0) (RP.of (eqr_zs (by omega) eqr_rf)) (IP.of (eqr_zs (by omega) eqr_rf)) (RT.of (eqr_zs (by omega) eqr_rf)) h11 (by omega) h14 ht ha
      exact ⟨w, _, by rw [if_neg hf0, zth_r, w1, zbs], by rw [if_neg hf0, w2, zbs], rfl, hth 0⟩
/-- a use is taken -/
theorem tk_use {T S : SS} {V : SL} {m t : Nat} {x2 w : Int32} (RT : RTok T S) (h11 : S 11 0 = nI m) (hm : m ≤ 513) (ht : t < m) (hw : f_X8_reason (zs S 0 0) (nI t) x2 = some w) :
    ∃ T' d, f_X6_takeUse T (nI t) = some T' ∧ (∀ r, r ≠ 8 → T' r = T r) ∧ T' 8 = upd (S 18) t (S 18 t - d) ∧ f_X8_request_46 S V (nI t) x2 = f_X8_request_96 (zs S 0 0) V (nI t) x2 w (nI t) (S 18 t) d := by
  have t4 : T 4 0 = nI m := RT.1.trans h11
  have z : ∀ {α : Type} (o : Option α), zix (nI t) 520 o = o := fun o => zix_nI (show t < 520 by omega) (by decide) o
  have z5 : ∀ {α : Type} (o : Option α), zix (nI t) 513 o = o := fun o => zix_nI (show t < 513 by omega) (by decide) o
  have cm : (nI t).toNatClampNeg = t := nI_clamp (by omega)
  have h8 : T 8 = S 18 := RT.2.2.2.2.2.2.2
  unfold f_X6_takeUse f_X8_request_46 f_X8_request_47 f_X8_request_95
  rw [is_X2 t4 hm ht, zbs, RT.2.1, zs_in, if_pos le0_0, hw, zbs]
  simp only [z, z5, cm, h8]
  by_cases h1 : S 12 t = 0
  · exact ⟨T, 0, by rw [if_pos h1, if_pos rfl], fun _ _ => rfl, by rw [Int32.sub_zero, upd_same rfl, h8], by rw [if_pos h1]⟩
  · rw [if_neg h1, if_neg n10, if_neg h1]
    by_cases h2 : S 18 t ≤ 0
    · exact ⟨T, 0, by rw [if_pos h2], fun _ _ => rfl, by rw [Int32.sub_zero, upd_same rfl, h8], by rw [if_pos h2]⟩
    · refine ⟨za T 8 (nI t) (S 18 t - 1), 1, by rw [if_neg h2], fun r hr => za_out T _ _ hr, ?_, by rw [if_neg h2]⟩
      rw [za_nI T 8 (by omega), h8]
/-- the class's and the reference's new credential -/
def ncK (K : SS) (g : Nat) (b e bd o p : Int32) : SS := za (za (zs (zs (za (za (za (za K 0 (nI g) b) 1 (nI g) e) 2 (nI g) bd) 3 (nI g) (vp_nar .boolean 1)) 5 (K 5 0 + 1)) 4 (nI (g + 1))) 6 (nI g) o) 7 (nI g) p
def ncC (S : SS) (g : Nat) (b e bd o p : Int32) : SS := zs (za (za (za (za (za (za S 20 (nI g) (vp_nar .boolean 1)) 21 (nI g) o) 22 (nI g) p) 23 (nI g) b) 24 (nI g) e) 25 (nI g) bd) 19 (nI (g + 1))
theorem add_cre {K : SS} {g : Nat} (h4 : K 4 0 = nI g) (hg : g < 513) (b e bd o p : Int32) : (f_X2_add K b e bd).bind (fun r4 => (f_X1_describe r4.2 r4.1 o p).bind (fun r5 => some (r4.1, r5))) = some (nI g, ncK K g b e bd o p) := by
  have z : ∀ {α : Type} (x : Option α), zix (nI g) 513 x = x := fun x => zix_nI hg (by decide) x
  rw [add_X2 h4 hg, zbs]
  unfold f_X1_describe
  rw [has_X2' (m := g + 1) (t := g) rfl (by omega) (by omega), zbs, if_neg n10, z, z]
  rfl
theorem nk_R {K S : SS} {g : Nat} (R : RCre K S) (b e bd o p : Int32) : RCre (ncK K g b e bd o p) (ncC S g b e bd o p) := by
  obtain ⟨h1, h2, h3, h4, h5, h6, h7⟩ := R
  refine ⟨rfl, ?_, ?_, ?_, ?_, ?_, ?_⟩
  · show upd (K 3) _ _ = upd (S 20) _ _
    rw [h2]
  · show upd (K 6) _ _ = upd (S 21) _ _
    rw [h3]
  · show upd (K 7) _ _ = upd (S 22) _ _
    rw [h4]
  · show upd (K 0) _ _ = upd (S 23) _ _
    rw [h5]
  · show upd (K 1) _ _ = upd (S 24) _ _
    rw [h6]
  · show upd (K 2) _ _ = upd (S 25) _ _
    rw [h7]
theorem nk_1 {S : SS} {g : Nat} (b e bd o p : Int32) : eqr 0 18 S (ncC S g b e bd o p) := eqr_zs (by omega) (eqr_za (by omega) (eqr_za (by omega) (eqr_za (by omega) (eqr_za (by omega) (eqr_za (by omega) (eqr_za (by omega) eqr_rf))))))
theorem nk_2 {S : SS} {g : Nat} (b e bd o p : Int32) : eqr 26 30 S (ncC S g b e bd o p) := eqr_zs (by omega) (eqr_za (by omega) (eqr_za (by omega) (eqr_za (by omega) (eqr_za (by omega) (eqr_za (by omega) (eqr_za (by omega) eqr_rf))))))
theorem nk_I {c m g t : Nat} {K S : SS} {b e bd p : Int32} (hc : c < 512) (I : ICre c K S) (h19 : S 19 0 = nI g) (hg' : g < 2 ^ 31) (h11 : S 11 0 = nI m) (hm' : m < 2 ^ 31) (ht : t < m) (hal : S 12 t ≠ 0) (h40 : cnt (S 20) g < 40) (he : S 1 0 < e) (hp : isP p) : ICre (c + 1) (ncK K g b e bd (nI t) p) (ncC S g b e bd (nI t) p) := by
  obtain ⟨g0, m0, hgc, g19, hmc, g11, k5, c40, ho⟩ := I
  have : g0 = g := (nI_eq (by omega) hg').mp (g19.symm.trans h19)
  subst this
  have : m0 = m := (nI_eq (by omega) hm').mp (g11.symm.trans h11)
  subst this
  have cm : (nI g0).toNatClampNeg = g0 := nI_clamp hg'
  have e20 : (ncC S g0 b e bd (nI t) p) 20 = upd (S 20) g0 1 := by
    show upd (S 20) (nI g0).toNatClampNeg (vp_nar .boolean 1) = _
    rw [cm, vn1]
  have e21 : (ncC S g0 b e bd (nI t) p) 21 = upd (S 21) g0 (nI t) := by
    show upd (S 21) (nI g0).toNatClampNeg (nI t) = _
    rw [cm]
  have e22 : (ncC S g0 b e bd (nI t) p) 22 = upd (S 22) g0 p := by
    show upd (S 22) (nI g0).toNatClampNeg p = _
    rw [cm]
  have e24 : (ncC S g0 b e bd (nI t) p) 24 = upd (S 24) g0 e := by
    show upd (S 24) (nI g0).toNatClampNeg e = _
    rw [cm]
  refine ⟨g0 + 1, m0, by omega, rfl, by omega, g11, ?_, ?_, fun j hj => ?_⟩
  · rw [e20, cnt_new]
    show K 5 0 + 1 = _
    rw [k5, nI_1]
  · rw [e20, cnt_new]; omega
  · rw [e20, e21, e22, e24]
    show _ ∧ _ ∧ (_ → S 1 0 < _ ∧ S 12 _ ≠ 0)
    by_cases hjg : j = g0
    · subst hjg
      rw [pk_us, pk_us, pk_us, pk_us]
      refine ⟨⟨t, ht, rfl⟩, hp, fun _ => ⟨he, ?_⟩⟩
      rw [nI_clamp (show t < 2 ^ 31 by omega)]
      exact hal
    · rw [pk_un hjg, pk_un hjg, pk_un hjg, pk_un hjg]
      exact ho j (by omega)
theorem ITok.T {c : Nat} {T T' S : SS} (h : ITok c T S) (q : T' 5 = T 5) : ITok c T' S := by
  unfold ITok at h ⊢
  rw [q]
  exact h
theorem rq_bad {V : SL} {x1 x2 : Int32} (v : Int32) (hv : ¬ v ≤ 0) (S : SS) : f_X8_request_47 S V x1 x2 v = some (0, zs S 0 v, V) := by
  unfold f_X8_request_47
  rw [zs_in, if_neg hv]
theorem st_request {c : Nat} (hc : c < 512) {B P M T K U : SS} {L : SL} {S : SS} {V : SL} (H : Inv c B P M T K U L S V) (x1 x2 : Int32) :
    (∃ E cd q S', f_X7_request B P M T K U L x1 x2 = some (.inl E) ∧ (E = "java/lang/IndexOutOfBoundsException" ∧ cd = 1 ∨ E = "java/lang/IllegalArgumentException" ∧ cd = 2 ∨ E = "java/lang/IllegalStateException" ∧ cd = 3) ∧ f_X8_request S V x1 x2 = some (q, S', V) ∧ S' 0 0 = cd ∧ Inv (c + 1) B P M T K U L S' V) ∨
    (∃ q T' K' U' L' S', f_X7_request B P M T K U L x1 x2 = some (.inr (q, T', K', U', L')) ∧ f_X8_request S V x1 x2 = some (q, S', L') ∧ S' 0 0 = 0 ∧ Inv (c + 1) B P M T' K' U' L' S' L') := by
  have H0 := H
  obtain ⟨⟨hB, _, RP, RM, RT, RK, _⟩, ⟨τ, hτ, hs1⟩, IP, IM, IT, IK, _⟩ := H0
  have hth : ∀ v, Inv (c + 1) B P M T K U L (zs S 0 v) V := fun v => H.th (eqr_zs (by omega) eqr_rf)
  have IT0 := IT
  obtain ⟨m, hm1, hmc, h11, h12, h13, h14, h16, t5, c30, hp⟩ := IT0
  have IK0 := IK
  obtain ⟨g, m2, hgc, h19, hm2, g11, k5, c40, ho⟩ := IK0
  unfold f_X7_request f_X8_request f_X7_checkPath
  rcases has_tok (RT.1.trans h11) h11 (by omega) x1 with ⟨a1, a2⟩ | ⟨t, ht, rfl, a1, a2⟩
  · exact Or.inl ⟨_, 1, _, _, by rw [a1, zth_l], Or.inl ⟨rfl, rfl⟩, by rw [a2, zbs, if_pos rfl, rq_bad 1 n1le0], rfl, hth 1⟩
  · rw [a1, zth_r, a2, zbs, if_neg n10]
    obtain ⟨f, f1, f2, f3⟩ := pth x2
    rw [f1, zbs, f2, zbs]
    rcases f3 with f3 | ⟨f3, a, ha, rfl⟩
    · exact Or.inl ⟨_, 2, _, _, by rw [if_pos f3, zth_l], Or.inr (Or.inl ⟨rfl, rfl⟩), by rw [if_pos f3, rq_bad 2 n2le0], rfl, hth 2⟩
    · have hf0 : ¬ f = 0 := by rw [f3]; decide
      rw [if_neg hf0, zth_r, if_neg hf0]
      have RT0 : RTok T (zs S 0 0) := RT.of (eqr_zs (by omega) eqr_rf)
      obtain ⟨w, w1, w2, w3⟩ := rea_eq (S := zs S 0 0) (RP.of (eqr_zs (by omega) eqr_rf)) (IP.of (eqr_zs (by omega) eqr_rf)) (RM.of (eqr_zs (by omega) eqr_rf)) (IM.of (eqr_zs (by omega) eqr_rf)) RT0 h11 (by omega) h14 ht ha
      have w2S : f_X8_reason S (nI t) (nI a) = some w := by
        obtain ⟨v, v1, v2, _⟩ := rea_eq RP IP RM IM RT h11 (by omega) h14 ht ha
        rw [v2, ← v1, w1]
      rw [w1, zbs, w2S, zbs]
      obtain ⟨T', d, u1, u2, u3, u4⟩ := tk_use (V := V) (x2 := nI a) RT h11 (by omega) ht w2
      have z : ∀ {α : Type} (o : Option α), zix (nI t) 520 o = o := fun o => zix_nI (show t < 520 by omega) (by decide) o
      have cm : (nI t).toNatClampNeg = t := nI_clamp (by omega)
      have hS1 : eqr 1 17 S (za (zs S 0 0) 18 (nI t) (S 18 t - d)) := eqr_za (by omega) (eqr_zs (by omega) eqr_rf)
      have hS2 : eqr 19 30 S (za (zs S 0 0) 18 (nI t) (S 18 t - d)) := eqr_za (by omega) (eqr_zs (by omega) eqr_rf)
      have RT1 : RTok T' (za (zs S 0 0) 18 (nI t) (S 18 t - d)) := by
        obtain ⟨h1, h2, h3, h4, h5, h6, h7, h8⟩ := RT
        refine ⟨?_, ?_, ?_, ?_, ?_, ?_, ?_, ?_⟩
        · rw [u2 4 (by decide)]; exact h1
        · rw [u2 3 (by decide)]; exact h2
        · rw [u2 6 (by decide)]; exact h3
        · rw [u2 7 (by decide)]; exact h4
        · rw [u2 0 (by decide)]; exact h5
        · rw [u2 1 (by decide)]; exact h6
        · rw [u2 2 (by decide)]; exact h7
        · rw [u3]
          show _ = upd (S 18) (nI t).toNatClampNeg (S 18 t - d)
          rw [cm]
      have RK1 : RCre K (za (zs S 0 0) 18 (nI t) (S 18 t - d)) := RK.of (eqr_sub hS2 (by omega) (by omega))
      have IT1 : ITok c T' (za (zs S 0 0) 18 (nI t) (S 18 t - d)) := ITok.T (T := T) IT (u2 5 (by decide))
      have IK1 : ICre c K (za (zs S 0 0) 18 (nI t) (S 18 t - d)) := IK
      rcases w3 with ⟨w0, hal, s, k, s6, n1, n2, n3, n4, kk1, kk2, n5⟩ | w3
      · subst w0
        rw [if_pos rfl, if_pos rfl, mny_C h19 (by omega), zbs]
        have hliv : f_X2_living K = some (nI (cnt (S 20) g)) := congrArg some k5
        rw [hliv, zbs]
        by_cases h40 : cnt (S 20) g = 40
        · left
          rw [h40]
          exact ⟨_, 3, _, _, by rw [if_pos (show (40 : Int32) ≤ nI 40 by decide)], Or.inr (Or.inr ⟨rfl, rfl⟩), by rw [if_pos (show nI 40 = 40 from rfl), rq_bad 3 n3le0], rfl, hth 3⟩
        · right
          have k4 : K 4 0 = nI g := RK.1.trans h19
          have hfull : f_X2_isFull K = some 0 := by
            unfold f_X2_isFull
            rw [k4, if_pos (show nI g < 513 from nI_lt (b := 513) (by omega) (by decide))]
          rw [if_neg (show ¬ (40 : Int32) ≤ nI (cnt (S 20) g) from nI_ge (b := 40) (by omega) (by decide)), hfull, zbs, if_pos rfl, if_neg (show ¬ nI (cnt (S 20) g) = 40 from nI_ne (b := 40) (by omega) (by decide) h40), u1, zbs, if_pos rfl, u4]
          have hmf : f_X8_mountFor (za (zs S 0 0) 18 (nI t) (S 18 t - d)) (nI a) = some (nI s) := by
            obtain ⟨nm, hnm, h7, I⟩ := IM
            obtain ⟨q, q1, q2, q3⟩ := nr_eq (M := M) (S := za (zs S 0 0) 18 (nI t) (S 18 t - d)) (RM.of (eqr_sub hS1 (by omega) (by omega))) h7 hnm I ha
            rw [q2, ← q1, n1]
          have hgive : f_X7_give B M K (nI t) (nI a) = some (nI g, ncK K g (S 1 0) (S 1 0 + S 9 s) (S 10 s) (nI t) (nI a)) := by
            unfold f_X7_give
            rw [n1, zbs, n3, zbs, n4, zbs, hB]
            exact add_cre k4 (by omega) _ _ _ _ _
          have hq : eqr 2 10 S (ncC (za (zs S 0 0) 18 (nI t) (S 18 t - d)) g (S 1 0) (S 1 0 + S 9 s) (S 10 s) (nI t) (nI a)) := eqr_tr (eqr_sub hS1 (by omega) (by omega)) (eqr_sub (nk_1 _ _ _ _ _) (by omega) (by omega))
          have hq2 : eqr 26 29 S (ncC (za (zs S 0 0) 18 (nI t) (S 18 t - d)) g (S 1 0) (S 1 0 + S 9 s) (S 10 s) (nI t) (nI a)) := eqr_tr (eqr_sub hS2 (by omega) (by omega)) (eqr_sub (nk_2 _ _ _ _ _) (by omega) (by omega))
          have n5' : S 9 s = nI k := n5
          have IT2 : ITok c T' (ncC (za (zs S 0 0) 18 (nI t) (S 18 t - d)) g (S 1 0) (S 1 0 + S 9 s) (S 10 s) (nI t) (nI a)) := IT1.of rfl (eqr_sub (nk_1 _ _ _ _ _) (by omega) (by omega)) (Nat.le_refl c)
          obtain ⟨U', S'', L', p1, p2, p3, p4⟩ := H.wrt hc (B' := B) (c' := c + 1) (S' := ncC (za (zs S 0 0) 18 (nI t) (S 18 t - d)) g (S 1 0) (S 1 0 + S 9 s) (S 10 s) (nI t) (nI a)) (Nat.le_refl _) hB (RT1.of (eqr_sub (nk_1 _ _ _ _ _) (by omega) (by omega))) (nk_R RK1 _ _ _ _ _) ⟨τ, by omega, hs1⟩ (IT2.of rfl eqr_rf (Nat.le_succ c))
            (nk_I hc IK1 h19 (by omega) h11 (by omega) ht hal (by show cnt (S 20) g < 40; omega) (by rw [n5']; exact tlt hs1 hτ hc kk1 kk2) ⟨a, ha, rfl⟩) hq hq2 2 (nI t) (nI g) (B 5 0) hB.symm
          refine ⟨nI g, T', _, U', L', S'', ?_, ?_, ?_, p4⟩
          · rw [hgive, zbs]
            simp only [p1, zbs]
          · have zg : ∀ {α : Type} (o : Option α), zix (nI g) 520 o = o := fun o => zix_nI (show g < 520 by omega) (by decide) o
            have zs6 : ∀ {α : Type} (o : Option α), zix (nI s) 6 o = o := fun o => zix_nI s6 (by decide) o
            unfold f_X8_request_96
            rw [z, if_pos le0_0, hmf, zbs, show (zs S 0 0) 19 0 = nI g from h19]
            simp only [zg, zs6, nI_clamp (show s < 2 ^ 31 by omega), nI_1, zs_in, nI_m1 (show 1 ≤ g + 1 by omega), Nat.add_sub_cancel]
            have p2' : f_X8_writes (zs (za (za (za (za (za (za (za (zs S 0 0) 18 (nI t) (S 18 t - d)) 20 (nI g) (vp_nar .boolean 1)) 21 (nI g) (nI t)) 22 (nI g) (nI a)) 23 (nI g) ((zs S 0 0) 1 0)) 24 (nI g) ((zs S 0 0) 1 0 + (zs S 0 0) 9 s)) 25 (nI g) ((zs S 0 0) 10 s)) 19 (nI (g + 1))) V 2 (nI t) (nI g) = some (S'', L') := p2
            rw [p2', zbs]
            show some (S'' 19 0 - 1, S'', L') = _
            rw [p3 19 (by omega) (by omega)]
            show some (nI (g + 1) - 1, S'', L') = _
            rw [nI_m1 (by omega), Nat.add_sub_cancel]
          · rw [p3 0 (by omega) (by omega)]
            rfl
      · right
        have w0 : ¬ w = 0 := fun q => w3 (by rw [q]; exact le0_0)
        obtain ⟨U', S'', L', p1, p2, p3, p4⟩ := H.wrt hc (B' := B) (c' := c) (S' := za (zs S 0 0) 18 (nI t) (S 18 t - d)) (by omega) hB RT1 RK1 ⟨τ, hτ, hs1⟩ IT1 IK1 (eqr_sub hS1 (by omega) (by omega)) (eqr_sub hS2 (by omega) (by omega)) 3 (nI t) w (B 5 0) hB.symm
        refine ⟨-1, T', K, U', L', S'', ?_, ?_, ?_, p4⟩
        · rw [if_neg w0, u1, zbs, if_neg w0, p1, zbs]
        · rw [if_neg w0, u4]
          unfold f_X8_request_96
          rw [z, if_neg w3, p2, zbs]
        · rw [p3 0 (by omega) (by omega)]
          rfl
