/-! pure: the audit -/
theorem wr {U S : SS} {V : SL} {e : Nat} (h : RAud U S) (he : S 26 0 = nI e) (hb : e < 513) (a b d t : Int32) (ht : S 1 0 = t) :
    ∃ U' S' L', f_X0_write U V a b d t = some (U', L') ∧ f_X8_writes S V a b d = some (S', L') ∧ RAud U' S' ∧ eqr 0 25 S S' ∧ S' 26 0 = nI (e + 1) := by
  obtain ⟨h1, h2, h3, h4⟩ := h
  have hU : U 4 0 = nI e := h1.trans he
  have z1 : ∀ {α : Type} (o : Option α), zix (nI e) 513 o = o := fun o => zix_nI hb (by decide) o
  have z2 : ∀ {α : Type} (o : Option α), zix (nI e) 520 o = o := fun o => zix_nI (show e < 520 by omega) (by decide) o
  unfold f_X0_write f_X8_writes
  rw [hU, he, ht, if_pos (show nI e < 513 from nI_lt (b := 513) hb (by decide))]
  simp only [z1, z2]
  have hS : RAud (zs (za (za (za U 0 (nI e) a) 1 (nI e) b) 2 (nI e) d) 4 (nI e + 1)) (zs (za (za (za S 27 (nI e) a) 28 (nI e) b) 29 (nI e) d) 26 (nI e + 1)) := by
    refine ⟨rfl, ?_, ?_, ?_⟩
    · show upd (U 0) _ _ = upd (S 27) _ _
      rw [h2]
    · show upd (U 1) _ _ = upd (S 28) _ _
      rw [h3]
    · show upd (U 2) _ _ = upd (S 29) _ _
      rw [h4]
  by_cases h0 : e = 0
  · subst h0
    rw [if_pos nI_0, if_pos nI_0]
    exact ⟨_, _, _, rfl, rfl, hS, eqr_zs (by omega) (eqr_za (by omega) (eqr_za (by omega) (eqr_za (by omega) eqr_rf))), nI_1 0⟩
  · have z3 : ∀ {α : Type} (o : Option α), zix (nI e - 1) 513 o = o := fun o => by rw [nI_m1 (by omega)]; exact zix_nI (by omega) (by decide) o
    have z4 : ∀ {α : Type} (o : Option α), zix (nI e - 1) 520 o = o := fun o => by rw [nI_m1 (by omega)]; exact zix_nI (by omega) (by decide) o
    rw [if_neg (nI_ne0 (by omega) (by omega)), if_neg (nI_ne0 (by omega) (by omega))]
    simp only [z3, z4]
    exact ⟨_, _, _, rfl, rfl, hS, eqr_zs (by omega) (eqr_za (by omega) (eqr_za (by omega) (eqr_za (by omega) eqr_rf))), nI_1 e⟩
theorem has_X0 {U S : SS} {e : Nat} (h : U 4 0 = nI e) (h2 : S 26 0 = nI e) (hn : e < 2 ^ 31) (x : Int32) : (f_X7_checkEntry U x = some (.inl "java/lang/IndexOutOfBoundsException") ∧ f_X8_asksEntry S x = some (0, zs S 0 1)) ∨ ∃ p : Nat, p < e ∧ x = nI p ∧ f_X7_checkEntry U x = some (.inr ()) ∧ f_X0_has U x = some 1 ∧ f_X8_asksEntry S x = some (1, zs S 0 0) := by
  unfold f_X7_checkEntry f_X0_has f_X8_asksEntry
  rw [h, h2, zs_in, zs_in, if_neg n10, if_pos rfl]
  rcases pk_ix x hn with q | q | ⟨j, hj, q⟩
  · exact Or.inl ⟨by rw [if_pos q, zbs, if_pos rfl], if_pos q⟩
  · by_cases q0 : x < 0
    · exact Or.inl ⟨by rw [if_pos q0, zbs, if_pos rfl], if_pos q0⟩
    · exact Or.inl ⟨by rw [if_neg q0, if_pos q, zbs, if_pos rfl], by rw [if_neg q0, if_pos q]⟩
  · refine Or.inr ⟨j, hj, q, ?_, ?_, ?_⟩
    · rw [q, if_neg (nI_pos (by omega)), if_neg (nI_ge hj hn), zbs, if_neg n10]
    · rw [q, if_neg (nI_pos (by omega)), if_neg (nI_ge hj hn)]
    · rw [q, if_neg (nI_pos (by omega)), if_neg (nI_ge hj hn)]
theorem st_entry {c : Nat} (hc : c < 512) {B P M T K U : SS} {L : SL} {S : SS} {V : SL} (H : Inv c B P M T K U L S V) (x1 : Int32) :
    ((f_X7_checkEntry U x1 = some (.inl "java/lang/IndexOutOfBoundsException") ∧ f_X8_asksEntry S x1 = some (0, zs S 0 1) ∧ Inv (c + 1) B P M T K U L (zs S 0 1) V) ∨
    (∃ p : Nat, p < 513 ∧ x1 = nI p ∧ f_X7_checkEntry U x1 = some (.inr ()) ∧ f_X0_has U x1 = some 1 ∧ f_X8_asksEntry S x1 = some (1, zs S 0 0) ∧ Inv (c + 1) B P M T K U L (zs S 0 0) V)) := by
  have H0 := H
  obtain ⟨⟨_, _, _, _, _, _, R⟩, _, _, _, _, _, ⟨e, he, h26⟩⟩ := H0
  have hth : ∀ v, Inv (c + 1) B P M T K U L (zs S 0 v) V := fun v => H.th (eqr_zs (by omega) eqr_rf)
  rcases has_X0 (R.1.trans h26) h26 (by omega) x1 with ⟨a1, a2⟩ | ⟨p, hp, q, a1, a2, a3⟩
  · exact Or.inl ⟨a1, a2, hth 1⟩
  · exact Or.inr ⟨p, by omega, q, a1, a2, a3, hth 0⟩
theorem st_kindOf {c : Nat} (hc : c < 512) {B P M T K U : SS} {L : SL} {S : SS} {V : SL} (H : Inv c B P M T K U L S V) (x1 : Int32) :
    (∃ q S', f_X7_kindOf U x1 = some (.inl "java/lang/IndexOutOfBoundsException") ∧ f_X8_kindOf S x1 = some (q, S') ∧ S' 0 0 = 1 ∧ Inv (c + 1) B P M T K U L S' V) ∨
    (∃ q S', f_X7_kindOf U x1 = some (.inr q) ∧ f_X8_kindOf S x1 = some (q, S') ∧ S' 0 0 = 0 ∧ Inv (c + 1) B P M T K U L S' V) := by
  have R := H.1.2.2.2.2.2.2
  unfold f_X7_kindOf f_X8_kindOf f_X0_kindAt
  rcases st_entry hc H x1 with ⟨a1, a2, a3⟩ | ⟨p, hp, rfl, a1, a2, a3, a4⟩
  · exact Or.inl ⟨_, _, by rw [a1, zth_l], by rw [a2, zbs, if_pos rfl], rfl, a3⟩
  · refine Or.inr ⟨S 27 p, _, ?_, ?_, rfl, a4⟩
    · rw [a1, zth_r, a2, zbs, if_neg n10, zix_nI hp (by decide), zbs, nI_clamp (by omega), R.2.1]
    · rw [a3, zbs, if_neg n10, zix_nI (by omega) (by decide), nI_clamp (by omega)]
      rfl
theorem st_subjectOf {c : Nat} (hc : c < 512) {B P M T K U : SS} {L : SL} {S : SS} {V : SL} (H : Inv c B P M T K U L S V) (x1 : Int32) :
    (∃ q S', f_X7_subjectOf U x1 = some (.inl "java/lang/IndexOutOfBoundsException") ∧ f_X8_subjectOf S x1 = some (q, S') ∧ S' 0 0 = 1 ∧ Inv (c + 1) B P M T K U L S' V) ∨
    (∃ q S', f_X7_subjectOf U x1 = some (.inr q) ∧ f_X8_subjectOf S x1 = some (q, S') ∧ S' 0 0 = 0 ∧ Inv (c + 1) B P M T K U L S' V) := by
  have R := H.1.2.2.2.2.2.2
  unfold f_X7_subjectOf f_X8_subjectOf f_X0_subjectAt
  rcases st_entry hc H x1 with ⟨a1, a2, a3⟩ | ⟨p, hp, rfl, a1, a2, a3, a4⟩
  · exact Or.inl ⟨_, _, by rw [a1, zth_l], by rw [a2, zbs, if_pos rfl], rfl, a3⟩
  · refine Or.inr ⟨S 28 p, _, ?_, ?_, rfl, a4⟩
    · rw [a1, zth_r, a2, zbs, if_neg n10, zix_nI hp (by decide), zbs, nI_clamp (by omega), R.2.2.1]
    · rw [a3, zbs, if_neg n10, zix_nI (by omega) (by decide), nI_clamp (by omega)]
      rfl
theorem st_detailOf {c : Nat} (hc : c < 512) {B P M T K U : SS} {L : SL} {S : SS} {V : SL} (H : Inv c B P M T K U L S V) (x1 : Int32) :
    (∃ q S', f_X7_detailOf U x1 = some (.inl "java/lang/IndexOutOfBoundsException") ∧ f_X8_detailOf S x1 = some (q, S') ∧ S' 0 0 = 1 ∧ Inv (c + 1) B P M T K U L S' V) ∨
    (∃ q S', f_X7_detailOf U x1 = some (.inr q) ∧ f_X8_detailOf S x1 = some (q, S') ∧ S' 0 0 = 0 ∧ Inv (c + 1) B P M T K U L S' V) := by
  have R := H.1.2.2.2.2.2.2
  unfold f_X7_detailOf f_X8_detailOf f_X0_detailAt
  rcases st_entry hc H x1 with ⟨a1, a2, a3⟩ | ⟨p, hp, rfl, a1, a2, a3, a4⟩
  · exact Or.inl ⟨_, _, by rw [a1, zth_l], by rw [a2, zbs, if_pos rfl], rfl, a3⟩
  · refine Or.inr ⟨S 29 p, _, ?_, ?_, rfl, a4⟩
    · rw [a1, zth_r, a2, zbs, if_neg n10, zix_nI hp (by decide), zbs, nI_clamp (by omega), R.2.2.2]
    · rw [a3, zbs, if_neg n10, zix_nI (by omega) (by decide), nI_clamp (by omega)]
      rfl
theorem st_sumOf {c : Nat} (hc : c < 512) {B P M T K U : SS} {L : SL} {S : SS} {V : SL} (H : Inv c B P M T K U L S V) (x1 : Int32) :
    (∃ q S', f_X7_sumOf U L x1 = some (.inl "java/lang/IndexOutOfBoundsException") ∧ f_X8_sumOf S V x1 = some (q, S') ∧ S' 0 0 = 1 ∧ Inv (c + 1) B P M T K U L S' V) ∨
    (∃ q S', f_X7_sumOf U L x1 = some (.inr q) ∧ f_X8_sumOf S V x1 = some (q, S') ∧ S' 0 0 = 0 ∧ Inv (c + 1) B P M T K U L S' V) := by
  have R := H.1.2.1
  unfold f_X7_sumOf f_X8_sumOf f_X0_sumAt
  rcases st_entry hc H x1 with ⟨a1, a2, a3⟩ | ⟨p, hp, rfl, a1, a2, a3, a4⟩
  · exact Or.inl ⟨_, _, by rw [a1, zth_l], by rw [a2, zbs, if_pos rfl], rfl, a3⟩
  · refine Or.inr ⟨V p, _, ?_, ?_, rfl, a4⟩
    · rw [a1, zth_r, a2, zbs, if_neg n10, zix_nI hp (by decide), zbs, nI_clamp (by omega), R]
    · rw [a3, zbs, if_neg n10, zix_nI (by omega) (by decide), nI_clamp (by omega)]
theorem st_entries {c : Nat} {B P M T K U : SS} {L : SL} {S : SS} {V : SL} (H : Inv c B P M T K U L S V) : ∃ q S', f_X7_entries U = some q ∧ f_X8_entries S = some (q, S') ∧ Inv (c + 1) B P M T K U L S' V :=
  ⟨S 26 0, zs S 0 0, congrArg some H.1.2.2.2.2.2.2.1, rfl, H.th (eqr_zs (by omega) eqr_rf)⟩
theorem st_time {c : Nat} {B P M T K U : SS} {L : SL} {S : SS} {V : SL} (H : Inv c B P M T K U L S V) : ∃ q S', f_X7_time B = some q ∧ f_X8_time S = some (q, S') ∧ Inv (c + 1) B P M T K U L S' V :=
  ⟨S 1 0, zs S 0 0, congrArg some H.1.1, rfl, H.th (eqr_zs (by omega) eqr_rf)⟩
