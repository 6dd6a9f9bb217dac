/-! pure: create, renew -/
theorem mny_t {S : SS} {m : Nat} (h11 : S 11 0 = nI m) (hm : m ≤ 520) (k : Nat) : ∀ n i : Nat, i + k = m → k < n → f_X8_manyTokens_4 S n (nI (cnt (S 12) i)) (nI i) = some (nI (cnt (S 12) m)) := by
  induction k with
  | zero =>
    intro n i hi hn
    obtain ⟨n, rfl⟩ := zn_s hn
    have : i = m := by omega
    subst this
    rw [f_X8_manyTokens_4, h11, if_pos (nI_le (Nat.le_refl i) (by omega))]
  | succ k ih =>
    intro n i hi hn
    obtain ⟨n, rfl⟩ := zn_s hn
    rw [f_X8_manyTokens_4, h11, if_neg (nI_ge (show i < m by omega) (by omega)), zix_nI (show i < 520 by omega) (by decide), nI_clamp (show i < 2 ^ 31 by omega), nI_1, nI_1]
    have h := ih n (i + 1) (by omega) (by omega)
    simp only [cnt] at h
    by_cases h0 : S 12 i = 0
    · rw [if_pos h0] at h
      rw [if_pos h0, nI_p0]
      exact h
    · rw [if_neg h0] at h
      rw [if_neg h0]
      exact h
theorem mny_T {S : SS} {m : Nat} (h11 : S 11 0 = nI m) (hm : m ≤ 520) : f_X8_manyTokens S = some (nI (cnt (S 12) m)) := mny_t h11 hm m 600 0 (Nat.zero_add m) (by omega)
theorem mny_c {S : SS} {m : Nat} (h11 : S 19 0 = nI m) (hm : m ≤ 520) (k : Nat) : ∀ n i : Nat, i + k = m → k < n → f_X8_manyCredentials_4 S n (nI (cnt (S 20) i)) (nI i) = some (nI (cnt (S 20) m)) := by
  induction k with
  | zero =>
    intro n i hi hn
    obtain ⟨n, rfl⟩ := zn_s hn
    have : i = m := by omega
    subst this
    rw [f_X8_manyCredentials_4, h11, if_pos (nI_le (Nat.le_refl i) (by omega))]
  | succ k ih =>
    intro n i hi hn
    obtain ⟨n, rfl⟩ := zn_s hn
    rw [f_X8_manyCredentials_4, h11, if_neg (nI_ge (show i < m by omega) (by omega)), zix_nI (show i < 520 by omega) (by decide), nI_clamp (show i < 2 ^ 31 by omega), nI_1, nI_1]
    have h := ih n (i + 1) (by omega) (by omega)
    simp only [cnt] at h
    by_cases h0 : S 20 i = 0
    · rw [if_pos h0] at h
      rw [if_pos h0, nI_p0]
      exact h
    · rw [if_neg h0] at h
      rw [if_neg h0]
      exact h
theorem mny_C {S : SS} {m : Nat} (h11 : S 19 0 = nI m) (hm : m ≤ 520) : f_X8_manyCredentials S = some (nI (cnt (S 20) m)) := mny_c h11 hm m 600 0 (Nat.zero_add m) (by omega)
theorem tlt {τ k c : Nat} {s : Int32} (hs : s = nI τ) (hτ : τ ≤ 1000 * c) (hc : c < 512) (k1 : 1 ≤ k) (k2 : k ≤ 1000) : s < s + nI k := by
  rw [hs, nI_add]
  exact nI_lt (by omega) (by omega)
/-- the class's and the reference's new token -/
def ncT (T : SS) (m : Nat) (b e bd p pl us : Int32) : SS := za (za (za (zs (zs (za (za (za (za T 0 (nI m) b) 1 (nI m) e) 2 (nI m) bd) 3 (nI m) (vp_nar .boolean 1)) 5 (T 5 0 + 1)) 4 (nI (m + 1))) 6 (nI m) p) 7 (nI m) pl) 8 (nI m) us
def ncS (S : SS) (m : Nat) (b e bd p pl us : Int32) : SS := za (za (za (za (za (za (za (zs S 11 (nI (m + 1))) 12 (nI m) (vp_nar .boolean 1)) 13 (nI m) p) 14 (nI m) pl) 15 (nI m) b) 16 (nI m) e) 17 (nI m) bd) 18 (nI m) us
theorem add_X2 {T : SS} {m : Nat} (h4 : T 4 0 = nI m) (hm : m < 513) (b e bd : Int32) : f_X2_add T b e bd = some (nI m, zs (zs (za (za (za (za T 0 (nI m) b) 1 (nI m) e) 2 (nI m) bd) 3 (nI m) (vp_nar .boolean 1)) 5 (T 5 0 + 1)) 4 (nI (m + 1))) := by
  have z : ∀ {α : Type} (o : Option α), zix (nI m) 513 o = o := fun o => zix_nI hm (by decide) o
  unfold f_X2_add
  rw [h4, if_pos (show nI m < 513 from nI_lt (b := 513) hm (by decide))]
  simp only [z, zs_in, nI_1, nI_m1 (show 1 ≤ m + 1 by omega), Nat.add_sub_cancel]
theorem add_tok {T : SS} {m : Nat} (h4 : T 4 0 = nI m) (hm : m < 513) (b e bd p pl us : Int32) : (f_X2_add T b e bd).bind (fun r => f_X6_describe r.2 r.1 p pl us) = some (ncT T m b e bd p pl us) := by
  have z : ∀ {α : Type} (o : Option α), zix (nI m) 513 o = o := fun o => zix_nI hm (by decide) o
  rw [add_X2 h4 hm, zbs]
  unfold f_X6_describe
  rw [has_X2' (m := m + 1) (t := m) rfl (by omega) (by omega), zbs, if_neg n10, z, z, z]
  rfl
theorem nc_R {T S : SS} {m : Nat} (R : RTok T S) (b e bd p pl us : Int32) : RTok (ncT T m b e bd p pl us) (ncS S m b e bd p pl us) := by
  obtain ⟨h1, h2, h3, h4, h5, h6, h7, h8⟩ := R
  refine ⟨rfl, ?_, ?_, ?_, ?_, ?_, ?_, ?_⟩
  · show upd (T 3) _ _ = upd (S 12) _ _
    rw [h2]
  · show upd (T 6) _ _ = upd (S 13) _ _
    rw [h3]
  · show upd (T 7) _ _ = upd (S 14) _ _
    rw [h4]
  · show upd (T 0) _ _ = upd (S 15) _ _
    rw [h5]
  · show upd (T 1) _ _ = upd (S 16) _ _
    rw [h6]
  · show upd (T 2) _ _ = upd (S 17) _ _
    rw [h7]
  · show upd (T 8) _ _ = upd (S 18) _ _
    rw [h8]
theorem nc_1 {S : SS} {m : Nat} (b e bd p pl us : Int32) : eqr 0 10 S (ncS S m b e bd p pl us) := eqr_za (by omega) (eqr_za (by omega) (eqr_za (by omega) (eqr_za (by omega) (eqr_za (by omega) (eqr_za (by omega) (eqr_za (by omega) (eqr_zs (by omega) eqr_rf)))))))
theorem nc_2 {S : SS} {m : Nat} (b e bd p pl us : Int32) : eqr 19 30 S (ncS S m b e bd p pl us) := eqr_za (by omega) (eqr_za (by omega) (eqr_za (by omega) (eqr_za (by omega) (eqr_za (by omega) (eqr_za (by omega) (eqr_za (by omega) (eqr_zs (by omega) eqr_rf)))))))
theorem nc_I {c m v : Nat} {T S : SS} {b e bd pl us : Int32} (hc : c < 512) (I : ITok c T S) (R : RTok T S) (h11 : S 11 0 = nI m) (hm' : m < 2 ^ 31) (hv : v < m) (hal : S 12 v ≠ 0) (h30 : cnt (S 12) m < 30) (he : S 1 0 < e) : ITok (c + 1) (ncT T m b e bd (nI v) pl us) (ncS S m b e bd (nI v) pl us) := by
  obtain ⟨m0, hm1, hmc, g11, h12, h13, h14, h16, t5, c30, hp⟩ := I
  have : m0 = m := (nI_eq (by omega) hm').mp (g11.symm.trans h11)
  subst this
  have cm : (nI m0).toNatClampNeg = m0 := nI_clamp hm'
  have e12 : (ncS S m0 b e bd (nI v) pl us) 12 = upd (S 12) m0 1 := by
    show upd (S 12) (nI m0).toNatClampNeg (vp_nar .boolean 1) = _
    rw [cm, vn1]
  have e13 : (ncS S m0 b e bd (nI v) pl us) 13 = upd (S 13) m0 (nI v) := by
    show upd (S 13) (nI m0).toNatClampNeg (nI v) = _
    rw [cm]
  have e14 : (ncS S m0 b e bd (nI v) pl us) 14 = upd (S 14) m0 pl := by
    show upd (S 14) (nI m0).toNatClampNeg pl = _
    rw [cm]
  have e16 : (ncS S m0 b e bd (nI v) pl us) 16 = upd (S 16) m0 e := by
    show upd (S 16) (nI m0).toNatClampNeg e = _
    rw [cm]
  refine ⟨m0 + 1, by omega, by omega, rfl, ?_, ?_, ?_, ?_, ?_, ?_, ?_⟩
  · rw [e12, pk_un (by omega)]; exact h12
  · rw [e13, pk_un (by omega)]; exact h13
  · rw [e14, pk_un (by omega)]; exact h14
  · rw [e16, pk_un (by omega)]; exact h16
  · rw [e12, cnt_new]
    show T 5 0 + 1 = _
    rw [t5, nI_1]
  · rw [e12, cnt_new]; omega
  · intro t t1 t2
    rw [e12, e13, e16]
    show _ ∧ (_ → S 1 0 < _ ∧ _)
    by_cases htm : t = m0
    · subst htm
      rw [pk_us, pk_us, pk_us]
      refine ⟨Or.inr ⟨v, hv, rfl⟩, fun _ => ⟨he, Or.inr ?_⟩⟩
      rw [nI_clamp (show v < 2 ^ 31 by omega), pk_un (by omega)]
      exact hal
    · rw [pk_un htm, pk_un htm, pk_un htm]
      obtain ⟨p1, p2⟩ := hp t t1 (by omega)
      refine ⟨p1, fun hl => ⟨(p2 hl).1, ?_⟩⟩
      rcases p1 with q | ⟨p, q1, q2⟩
      · exact Or.inl q
      · rcases (p2 hl).2 with z | z
        · exact Or.inl z
        · rw [q2, nI_clamp (show p < 2 ^ 31 by omega)] at z
          rw [q2, nI_clamp (show p < 2 ^ 31 by omega), pk_un (by omega)]
          exact Or.inr z
theorem nc_K {c m : Nat} {K S : SS} {b e bd p pl us : Int32} (hc : c < 512) (I : ICre c K S) (h11 : S 11 0 = nI m) (hm' : m < 2 ^ 31) : ICre (c + 1) K (ncS S m b e bd p pl us) := by
  obtain ⟨g, m0, hgc, h19, hmc, g11, k5, c40, ho⟩ := I
  have : m0 = m := (nI_eq (by omega) hm').mp (g11.symm.trans h11)
  subst this
  have e12 : (ncS S m0 b e bd p pl us) 12 = upd (S 12) m0 1 := by
    show upd (S 12) (nI m0).toNatClampNeg (vp_nar .boolean 1) = _
    rw [nI_clamp hm', vn1]
  refine ⟨g, m0 + 1, by omega, h19, by omega, rfl, k5, c40, fun j hj => ?_⟩
  obtain ⟨⟨p, p1, p2⟩, o2, o3⟩ := ho j hj
  rw [e12]
  show (∃ p : Nat, p < m0 + 1 ∧ S 21 j = nI p) ∧ isP (S 22 j) ∧ (S 20 j ≠ 0 → S 1 0 < S 24 j ∧ upd (S 12) m0 1 (S 21 j).toNatClampNeg ≠ 0)
  refine ⟨⟨p, by omega, p2⟩, o2, fun hl => ⟨(o3 hl).1, ?_⟩⟩
  have h := (o3 hl).2
  rw [p2, nI_clamp (show p < 2 ^ 31 by omega)] at h
  rw [p2, nI_clamp (show p < 2 ^ 31 by omega), pk_un (by omega)]
  exact h
/-- who may hand these policies -/
theorem mh_eq {P T S : SS} {m v : Nat} {x2 : Int32} (RP : RPol P S) (RT : RTok T S) (h11 : S 11 0 = nI m) (hm : m ≤ 513) (hv : v < m) :
    ∃ r, f_X7_mayHand P T (nI v) x2 = some r ∧ ((r = 0 ∧ ∀ (V : SL) (x3 x4 x5 : Int32), f_X8_create S V (nI v) x2 x3 x4 x5 = f_X8_create_98 S V (nI v) x2 x3 x4 x5) ∨
      (r = 1 ∧ ∀ (V : SL) (x3 x4 x5 : Int32), f_X8_create S V (nI v) x2 x3 x4 x5 = f_X8_create_55 S V (nI v) x2 x3 x4 x5 1 1 1)) := by
  have t4 : T 4 0 = nI m := RT.1.trans h11
  have hwm : f_X8_wasMade S (nI v) = some 1 := by
    unfold f_X8_wasMade
    rw [h11, if_neg (nI_pos (by omega)), if_neg (nI_ge hv (by omega))]
  have h98 : ∀ (V : SL) (x3 x4 x5 s0 v6 : Int32), v6 = 0 → f_X8_create_55 S V (nI v) x2 x3 x4 x5 v6 1 s0 = f_X8_create_98 S V (nI v) x2 x3 x4 x5 := fun V x3 x4 x5 s0 v6 h => by
    unfold f_X8_create_55
    rw [if_neg n10, if_pos h]
  have h98' : ∀ (V : SL) (x3 x4 x5 v6 : Int32), f_X8_create_55 S V (nI v) x2 x3 x4 x5 v6 1 0 = f_X8_create_98 S V (nI v) x2 x3 x4 x5 := fun V x3 x4 x5 v6 => by
    unfold f_X8_create_55
    rw [if_neg n10, if_pos rfl]
    by_cases h : v6 = 0
    · rw [if_pos h]
    · rw [if_neg h]
  have h19 : ∀ (V : SL) (x3 x4 x5 s : Int32), s = 0 → f_X8_create_19 S V (nI v) x2 x3 x4 x5 s = f_X8_create_98 S V (nI v) x2 x3 x4 x5 := fun V x3 x4 x5 s hs => by
    unfold f_X8_create_19 f_X8_create_50 f_X8_create_54
    rw [hwm, zbs, if_neg n10, h98 V x3 x4 x5 1 s hs, h98 V x3 x4 x5 0 s hs]
    by_cases h0 : nI v = 0
    · rw [if_pos h0]
    · rw [if_neg h0, zix_nI (show v < 520 by omega) (by decide)]
      by_cases h1 : x2 &&& (S 14 (nI v).toNatClampNeg ^^^ (-1)) = 0
      · rw [if_pos h1]
      · rw [if_neg h1]
  unfold f_X7_mayHand f_X5_hasAll f_X8_create f_X8_create_18
  rw [RP.1]
  by_cases h1 : x2 < 0
  · exact ⟨0, by rw [if_pos h1, zbs, if_pos rfl], Or.inl ⟨rfl, fun V x3 x4 x5 => by rw [if_pos h1, h19 V x3 x4 x5 0 rfl]⟩⟩
  · by_cases h2 : (1 <<< (S 2 0 &&& 31)) ≤ x2
    · exact ⟨0, by rw [if_neg h1, if_pos h2, zbs, if_pos rfl], Or.inl ⟨rfl, fun V x3 x4 x5 => by rw [if_neg h1, if_pos h2, h19 V x3 x4 x5 0 rfl]⟩⟩
    · have hcr : ∀ (V : SL) (x3 x4 x5 : Int32), (if x2 < 0 then f_X8_create_19 S V (nI v) x2 x3 x4 x5 0 else if (1 <<< (S 2 0 &&& 31)) ≤ x2 then f_X8_create_19 S V (nI v) x2 x3 x4 x5 0 else f_X8_create_19 S V (nI v) x2 x3 x4 x5 1) = (if nI v = 0 then f_X8_create_55 S V (nI v) x2 x3 x4 x5 1 1 1 else if x2 &&& (S 14 v ^^^ (-1)) = 0 then f_X8_create_55 S V (nI v) x2 x3 x4 x5 1 1 1 else f_X8_create_98 S V (nI v) x2 x3 x4 x5) := fun V x3 x4 x5 => by
        rw [if_neg h1, if_neg h2]
        unfold f_X8_create_19 f_X8_create_50 f_X8_create_54
        rw [hwm, zbs, if_neg n10, h98' V x3 x4 x5 1, zix_nI (show v < 520 by omega) (by decide), nI_clamp (show v < 2 ^ 31 by omega)]
      have hpo : f_X6_policiesAt T (nI v) = some (S 14 v) := by
        unfold f_X6_policiesAt
        rw [has_X2' t4 (by omega) hv, zbs, if_neg n10, zix_nI (show v < 513 by omega) (by decide), nI_clamp (show v < 2 ^ 31 by omega), RT.2.2.2.1]
      by_cases h0 : nI v = 0
      · exact ⟨1, by rw [if_neg h1, if_neg h2, zbs, if_neg n10, if_pos h0], Or.inr ⟨rfl, fun V x3 x4 x5 => by rw [hcr, if_pos h0]⟩⟩
      · by_cases h3 : x2 &&& (S 14 v ^^^ (-1)) = 0
        · exact ⟨1, by rw [if_neg h1, if_neg h2, zbs, if_neg n10, if_neg h0, hpo, zbs, if_pos h3], Or.inr ⟨rfl, fun V x3 x4 x5 => by rw [hcr, if_neg h0, if_pos h3]⟩⟩
        · exact ⟨0, by rw [if_neg h1, if_neg h2, zbs, if_neg n10, if_neg h0, hpo, zbs, if_neg h3], Or.inl ⟨rfl, fun V x3 x4 x5 => by rw [hcr, if_neg h0, if_neg h3]⟩⟩
theorem cr_bad {S : SS} {V : SL} {x1 x2 x3 x4 x5 : Int32} (v : Int32) (hv : ¬ v ≤ 0) : f_X8_create_125 S V x1 x2 x3 x4 x5 v = some (0, zs S 0 v, V) := by
  unfold f_X8_create_125
  rw [zs_in, if_neg hv]
theorem st_create {c : Nat} (hc : c < 512) {B P M T K U : SS} {L : SL} {S : SS} {V : SL} (H : Inv c B P M T K U L S V) (x1 x2 x3 x4 x5 : Int32) :
    (∃ E cd q S', f_X7_create B P T U L x1 x2 x3 x4 x5 = some (.inl E) ∧ (E = "java/lang/IndexOutOfBoundsException" ∧ cd = 1 ∨ E = "java/lang/IllegalArgumentException" ∧ cd = 2 ∨ E = "java/lang/IllegalStateException" ∧ cd = 3) ∧ f_X8_create S V x1 x2 x3 x4 x5 = some (q, S', V) ∧ S' 0 0 = cd ∧ Inv (c + 1) B P M T K U L S' V) ∨
    (∃ q T' U' L' S', f_X7_create B P T U L x1 x2 x3 x4 x5 = some (.inr (q, T', U', L')) ∧ f_X8_create S V x1 x2 x3 x4 x5 = some (q, S', L') ∧ S' 0 0 = 0 ∧ Inv (c + 1) B P M T' K U' L' S' L') := by
  have H0 := H
  obtain ⟨⟨hB, _, RP, _, RT, RK, _⟩, ⟨τ, hτ, hs1⟩, _, _, IT, IK, _⟩ := H0
  have hth : ∀ v, Inv (c + 1) B P M T K U L (zs S 0 v) V := fun v => H.th (eqr_zs (by omega) eqr_rf)
  have IT0 := IT
  obtain ⟨m, hm1, hmc, h11, h12, h13, h14, h16, t5, c30, hp⟩ := IT0
  have t4 : T 4 0 = nI m := RT.1.trans h11
  have b98 : f_X8_create_98 S V x1 x2 x3 x4 x5 = some (0, zs S 0 2, V) := cr_bad 2 n2le0
  have b120 : f_X8_create_120 S V x1 x2 x3 x4 x5 = some (0, zs S 0 3, V) := cr_bad 3 n3le0
  unfold f_X7_create
  rcases has_tok t4 h11 (by omega) x1 with ⟨a1, a2⟩ | ⟨v, hv, rfl, a1, a2⟩
  · left
    refine ⟨_, 1, 0, zs S 0 1, by rw [a1, zth_l], Or.inl ⟨rfl, rfl⟩, ?_, rfl, hth 1⟩
    have h55 : ∀ s s0 : Int32, f_X8_create_55 S V x1 x2 x3 x4 x5 s 0 s0 = some (0, zs S 0 1, V) := fun s s0 => by
      unfold f_X8_create_55
      rw [if_pos rfl, cr_bad 1 n1le0]
    have h19 : ∀ s : Int32, f_X8_create_19 S V x1 x2 x3 x4 x5 s = some (0, zs S 0 1, V) := fun s => by
      unfold f_X8_create_19 f_X8_create_54
      rw [a2, zbs, if_pos rfl, h55]
    unfold f_X8_create f_X8_create_18
    by_cases h1 : x2 < 0
    · rw [if_pos h1, h19]
    · by_cases h2 : (1 <<< (S 2 0 &&& 31)) ≤ x2
      · rw [if_neg h1, if_pos h2, h19]
      · rw [if_neg h1, if_neg h2, h19]
  · rw [a1, zth_r]
    obtain ⟨r, r1, r2⟩ := mh_eq (x2 := x2) RP RT h11 (by omega) hv
    rw [r1, zbs]
    rcases r2 with ⟨r2, r3⟩ | ⟨r2, r3⟩
    · left
      exact ⟨_, 2, _, _, by rw [if_pos r2], Or.inr (Or.inl ⟨rfl, rfl⟩), by rw [r3, b98], rfl, hth 2⟩
    · have hr0 : ¬ r = 0 := by rw [r2]; decide
      rw [if_neg hr0, r3]
      unfold f_X8_create_55
      rw [if_neg n10, if_neg n10, if_neg n10]
      rcases lea x3 x4 with ⟨l1, l2⟩ | ⟨l1, l2, k, k1, k2, rfl⟩
      · left
        exact ⟨_, 2, _, _, by rw [l1, zth_l], Or.inr (Or.inl ⟨rfl, rfl⟩), by rw [l2, zbs, if_pos rfl, b98], rfl, hth 2⟩
      · rw [l1, zth_r, l2, zbs, if_neg n10, rng]
        by_cases u1 : x5 < 0
        · left
          exact ⟨_, 2, _, _, by rw [if_pos u1, zth_l], Or.inr (Or.inl ⟨rfl, rfl⟩), by rw [if_pos u1, b98], rfl, hth 2⟩
        · by_cases u2 : x5 ≤ 100
          · rw [if_neg u1, if_pos u2, zth_r, if_neg u1, if_pos u2, zix_nI (show v < 520 by omega) (by decide), nI_clamp (show v < 2 ^ 31 by omega)]
            rcases alv_tok t4 (by omega) RT.2.1 hv with ⟨d1, d2⟩ | ⟨d1, d2⟩
            · left
              exact ⟨_, 3, _, _, by rw [d2, zth_l], Or.inr (Or.inr ⟨rfl, rfl⟩), by rw [if_pos d1, b120], rfl, hth 3⟩
            · rw [d2, zth_r, if_neg d1, mny_T h11 (by omega), zbs]
              have hliv : f_X2_living T = some (nI (cnt (S 12) m)) := congrArg some t5
              rw [hliv, zbs]
              by_cases h30 : cnt (S 12) m = 30
              · left
                rw [h30]
                exact ⟨_, 3, _, _, by rw [if_pos (show (30 : Int32) ≤ nI 30 by decide)], Or.inr (Or.inr ⟨rfl, rfl⟩), by rw [if_pos (show nI 30 = 30 from rfl), b120], rfl, hth 3⟩
              · right
                have hfull : f_X2_isFull T = some 0 := by
                  unfold f_X2_isFull
                  rw [t4, if_pos (show nI m < 513 from nI_lt (b := 513) (by omega) (by decide))]
                rw [if_neg (show ¬ (30 : Int32) ≤ nI (cnt (S 12) m) from nI_ge (b := 30) (by omega) (by decide)), hfull, zbs, if_pos rfl, if_neg (show ¬ nI (cnt (S 12) m) = 30 from nI_ne (b := 30) (by omega) (by decide) h30)]
                have hR := nc_R (m := m) (RT.of (S' := zs S 0 0) (eqr_zs (by omega) eqr_rf)) (S 1 0) (S 1 0 + nI k) x4 (nI v) x2
                have hal : (zs S 0 0) 12 v ≠ 0 := d1
                have hfin : ∀ us : Int32, ∃ U' S'' L', f_X0_write U L 0 (nI v) (nI m) (B 5 0) = some (U', L') ∧ f_X8_writes (ncS (zs S 0 0) m (S 1 0) (S 1 0 + nI k) x4 (nI v) x2 us) V 0 (nI v) (nI m) = some (S'', L') ∧ S'' 0 0 = 0 ∧ Inv (c + 1) B P M (ncT T m (S 1 0) (S 1 0 + nI k) x4 (nI v) x2 us) K U' L' S'' L' := fun us => by
                  obtain ⟨U', S'', L', w1, w2, w3, w4⟩ := H.wrt hc (B' := B) (K' := K) (c' := c + 1) (S' := ncS (zs S 0 0) m (S 1 0) (S 1 0 + nI k) x4 (nI v) x2 us) (Nat.le_refl _) hB (hR us) (RK.of (eqr_sub (eqr_tr (eqr_zs (by omega) eqr_rf) (nc_2 _ _ _ _ _ _)) (by omega) (by omega))) ⟨τ, by omega, hs1⟩
                    (nc_I hc (IT.of (S' := zs S 0 0) rfl (eqr_zs (by omega) eqr_rf) (Nat.le_refl c)) (RT.of (eqr_zs (by omega) eqr_rf)) h11 (by omega) hv hal (by show cnt (S 12) m < 30; omega) (tlt hs1 hτ hc k1 k2))
                    (nc_K hc (IK.of (S' := zs S 0 0) rfl (eqr_zs (by omega) eqr_rf) (Nat.le_refl c)) h11 (by omega))
                    (eqr_sub (eqr_tr (eqr_zs (S := S) (k := 0) (v := 0) (a := 1) (b := 10) (by omega) eqr_rf) (eqr_sub (nc_1 _ _ _ _ _ _) (by omega) (by omega))) (by omega) (by omega)) (eqr_sub (eqr_tr (eqr_zs (S := S) (k := 0) (v := 0) (a := 19) (b := 30) (by omega) eqr_rf) (nc_2 _ _ _ _ _ _)) (by omega) (by omega)) 0 (nI v) (nI m) (B 5 0) hB.symm
                  refine ⟨U', S'', L', w1, w2, ?_, w4⟩
                  rw [w3 0 (by omega) (by omega)]
                  rfl
                have z : ∀ {α : Type} (o : Option α), zix (nI m) 520 o = o := fun o => zix_nI (show m < 520 by omega) (by decide) o
                unfold f_X8_create_125
                rw [zs_in, if_pos le0_0, h11, hB]
                simp only [z, nI_1]
                rw [add_X2 t4 (by omega), zbs]
                have hd : ∀ us : Int32, f_X6_describe (zs (zs (za (za (za (za T 0 (nI m) (S 1 0)) 1 (nI m) (S 1 0 + nI k)) 2 (nI m) x4) 3 (nI m) (vp_nar .boolean 1)) 5 (T 5 0 + 1)) 4 (nI (m + 1))) (nI m) (nI v) x2 us = some (ncT T m (S 1 0) (S 1 0 + nI k) x4 (nI v) x2 us) := fun us => by
                  have h := add_tok t4 (show m < 513 by omega) (S 1 0) (S 1 0 + nI k) x4 (nI v) x2 us
                  rw [add_X2 t4 (by omega), zbs] at h
                  exact h
                by_cases h5 : x5 = 0
                · obtain ⟨U', S'', L', w1, w2, w3, w4⟩ := hfin (-1)
                  rw [hB] at w1
                  have w2' : f_X8_writes (za (za (za (za (za (za (za (zs (zs S 0 0) 11 (nI (m + 1))) 12 (nI m) (vp_nar .boolean 1)) 13 (nI m) (nI v)) 14 (nI m) x2) 15 (nI m) (S 1 0)) 16 (nI m) (S 1 0 + nI k)) 17 (nI m) x4) 18 (nI m) (-1)) V 0 (nI v) (nI m) = some (S'', L') := w2
                  refine ⟨nI m, _, U', L', S'', ?_, ?_, w3, w4⟩
                  · rw [if_pos h5, hd, zbs, w1, zbs]
                  · rw [if_pos h5, w2', zbs]
                · obtain ⟨U', S'', L', w1, w2, w3, w4⟩ := hfin x5
                  rw [hB] at w1
                  have w2' : f_X8_writes (za (za (za (za (za (za (za (zs (zs S 0 0) 11 (nI (m + 1))) 12 (nI m) (vp_nar .boolean 1)) 13 (nI m) (nI v)) 14 (nI m) x2) 15 (nI m) (S 1 0)) 16 (nI m) (S 1 0 + nI k)) 17 (nI m) x4) 18 (nI m) x5) V 0 (nI v) (nI m) = some (S'', L') := w2
                  refine ⟨nI m, _, U', L', S'', ?_, ?_, w3, w4⟩
                  · rw [if_neg h5, hd, zbs, w1, zbs]
                  · rw [if_neg h5, w2', zbs]
          · left
            exact ⟨_, 2, _, _, by rw [if_neg u1, if_neg u2, zth_l], Or.inr (Or.inl ⟨rfl, rfl⟩), by rw [if_neg u1, if_neg u2, b98], rfl, hth 2⟩
