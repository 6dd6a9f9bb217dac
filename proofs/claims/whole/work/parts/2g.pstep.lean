/-! pure: a step of the law -/
theorem lgc (x : Int64) : lg_cmp x x = 0 := by
  unfold lg_cmp
  rw [if_neg (show ¬ x > x from Int64.lt_irrefl), if_pos rfl]
theorem zca_l {α β : Type} (E : String) (h : String → Option β) (k : α → Option β) : zca (some (.inl E)) h k = h E := rfl
theorem zca_r {α β : Type} (u : α) (h : String → Option β) (k : α → Option β) : zca (some (.inr u)) h k = k u := rfl
theorem uO (O : SL) (v : Int64) : vp_updL O (0 : Int32).toNatClampNeg v (0 : Int32).toNatClampNeg = v := pk_uLs
theorem sne1 : ¬ "java/lang/IllegalArgumentException" = "java/lang/IndexOutOfBoundsException" := by decide +kernel
theorem sne2 : ¬ "java/lang/IllegalStateException" = "java/lang/IndexOutOfBoundsException" := by decide +kernel
theorem sne3 : ¬ "java/lang/IllegalStateException" = "java/lang/IllegalArgumentException" := by decide +kernel
/-- the five ints behind i lie in the script -/
def in5 (sL : Nat) (i : Int32) : Prop := ∀ (α : Type) (o : Option α), zix (i + 1) sL o = o ∧ zix (i + 2) sL o = o ∧ zix (i + 3) sL o = o ∧ zix (i + 4) sL o = o ∧ zix (i + 5) sL o = o
/-- the rest of the loop answers 1 from every state that keeps the invariant -/
def okk (c : Nat) (k : SS → SS → SS → SS → SS → SS → SL → SL → SS → SL → Option Int32) : Prop := ∀ (B P M T K U : SS) (L O : SL) (S : SS) (V : SL), Inv (c + 1) B P M T K U L S V → k B P M T K U L O S V = some 1
theorem sp_0 {xs : Nat → Int32} {sL c : Nat} {i : Int32} {k : SS → SS → SS → SS → SS → SS → SL → SL → SS → SL → Option Int32} {B P M T K U : SS} {L O : SL} {S : SS} {V : SL} (hc : c < 512) (hz : in5 sL i) (H : Inv c B P M T K U L S V) (hk : okk c k) : f_law_0 xs sL i k B P M T K U L O S V = some 1 := by
  unfold f_law_0
  rcases st_policy H  with ⟨q, S', e1, e3, e4, e5⟩ | ⟨q, P', S', e1, e2, e3, e4⟩
  · have hL : f_L_policy P O  = some (1, P, O) := by
      unfold f_L_policy
      rw [e1, zca_l, if_pos rfl]
    have hcd : ¬ (1 : Int32) = 0 := by decide
    have hT : f_X8_thrown S' = some 1 := congrArg some e4
    rw [hL, zbs]
    simp only [e3, zbs, hT]
    rw [if_pos trivial, if_neg hcd]
    exact hk _ _ _ _ _ _ _ _ _ _ e5
  · have hL : f_L_policy P O  = some (0, P', vp_updL O (0 : Int32).toNatClampNeg q.toInt64) := by
      unfold f_L_policy
      rw [e1, zca_r]
      exact zix0 1 (by decide) _
    have hT : f_X8_thrown S' = some 0 := congrArg some e3
    rw [hL, zbs]
    simp only [e2, zbs, hT]
    rw [if_pos trivial, if_pos trivial, zix0 1 (by decide)]
    rw [uO, lgc, if_pos rfl]
    exact hk _ _ _ _ _ _ _ _ _ _ e4
theorem sp_2 {xs : Nat → Int32} {sL c : Nat} {i : Int32} {k : SS → SS → SS → SS → SS → SS → SL → SL → SS → SL → Option Int32} {B P M T K U : SS} {L O : SL} {S : SS} {V : SL} (hc : c < 512) (hz : in5 sL i) (H : Inv c B P M T K U L S V) (hk : okk c k) : f_law_2 xs sL i k B P M T K U L O S V = some 1 := by
  have z1 : ∀ {α : Type} (o : Option α), zix (i + 1) sL o = o := fun {α} o => (hz α o).1
  unfold f_law_2
  simp only [z1]
  generalize xs (i + 1).toNatClampNeg = x1
  rcases st_clear H x1 with ⟨q, S', e1, e3, e4, e5⟩ | ⟨q, P', S', e1, e2, e3, e4⟩
  · have hL : f_L_clear P O x1 = some (1, P, O) := by
      unfold f_L_clear
      rw [e1, zca_l, if_pos rfl]
    have hcd : ¬ (1 : Int32) = 0 := by decide
    have hT : f_X8_thrown S' = some 1 := congrArg some e4
    rw [hL, zbs]
    simp only [e3, zbs, hT]
    rw [if_pos trivial, if_neg hcd]
    exact hk _ _ _ _ _ _ _ _ _ _ e5
  · have hL : f_L_clear P O x1 = some (0, P', vp_updL O (0 : Int32).toNatClampNeg q.toInt64) := by
      unfold f_L_clear
      rw [e1, zca_r]
      exact zix0 1 (by decide) _
    have hT : f_X8_thrown S' = some 0 := congrArg some e3
    rw [hL, zbs]
    simp only [e2, zbs, hT]
    rw [if_pos trivial, if_pos trivial, zix0 1 (by decide)]
    rw [uO, lgc, if_pos rfl]
    exact hk _ _ _ _ _ _ _ _ _ _ e4
theorem sp_3 {xs : Nat → Int32} {sL c : Nat} {i : Int32} {k : SS → SS → SS → SS → SS → SS → SL → SL → SS → SL → Option Int32} {B P M T K U : SS} {L O : SL} {S : SS} {V : SL} (hc : c < 512) (hz : in5 sL i) (H : Inv c B P M T K U L S V) (hk : okk c k) : f_law_3 xs sL i k B P M T K U L O S V = some 1 := by
  have z1 : ∀ {α : Type} (o : Option α), zix (i + 1) sL o = o := fun {α} o => (hz α o).1
  have z2 : ∀ {α : Type} (o : Option α), zix (i + 2) sL o = o := fun {α} o => (hz α o).2.1
  have z3 : ∀ {α : Type} (o : Option α), zix (i + 3) sL o = o := fun {α} o => (hz α o).2.2.1
  unfold f_law_3
  simp only [z1, z2, z3]
  generalize xs (i + 1).toNatClampNeg = x1
  generalize xs (i + 2).toNatClampNeg = x2
  generalize xs (i + 3).toNatClampNeg = x3
  rcases st_mount H x1 x2 x3 with ⟨E, cd, q, S', e1, e2, e3, e4, e5⟩ | ⟨q, M', S', e1, e2, e3, e4⟩
  · have hL : f_L_mount M O x1 x2 x3 = some (cd, M, O) := by
      unfold f_L_mount
      rcases e2 with ⟨h1, h2⟩ | ⟨h1, h2⟩
      · rw [e1, h1, h2, zca_l, if_pos rfl]
      · rw [e1, h1, h2, zca_l, if_neg sne3, if_pos rfl]
    have hcd : ¬ cd = 0 := by
      rcases e2 with ⟨_, h2⟩ | ⟨_, h2⟩
      · rw [h2]; decide
      · rw [h2]; decide
    have hT : f_X8_thrown S' = some cd := congrArg some e4
    rw [hL, zbs]
    simp only [e3, zbs, hT]
    rw [if_pos trivial, if_neg hcd]
    exact hk _ _ _ _ _ _ _ _ _ _ e5
  · have hL : f_L_mount M O x1 x2 x3 = some (0, M', vp_updL O (0 : Int32).toNatClampNeg q.toInt64) := by
      unfold f_L_mount
      rw [e1, zca_r]
      exact zix0 1 (by decide) _
    have hT : f_X8_thrown S' = some 0 := congrArg some e3
    rw [hL, zbs]
    simp only [e2, zbs, hT]
    rw [if_pos trivial, if_pos trivial, zix0 1 (by decide)]
    rw [uO, lgc, if_pos rfl]
    exact hk _ _ _ _ _ _ _ _ _ _ e4
theorem sp_4 {xs : Nat → Int32} {sL c : Nat} {i : Int32} {k : SS → SS → SS → SS → SS → SS → SL → SL → SS → SL → Option Int32} {B P M T K U : SS} {L O : SL} {S : SS} {V : SL} (hc : c < 512) (hz : in5 sL i) (H : Inv c B P M T K U L S V) (hk : okk c k) : f_law_4 xs sL i k B P M T K U L O S V = some 1 := by
  have z1 : ∀ {α : Type} (o : Option α), zix (i + 1) sL o = o := fun {α} o => (hz α o).1
  have z2 : ∀ {α : Type} (o : Option α), zix (i + 2) sL o = o := fun {α} o => (hz α o).2.1
  have z3 : ∀ {α : Type} (o : Option α), zix (i + 3) sL o = o := fun {α} o => (hz α o).2.2.1
  have z4 : ∀ {α : Type} (o : Option α), zix (i + 4) sL o = o := fun {α} o => (hz α o).2.2.2.1
  have z5 : ∀ {α : Type} (o : Option α), zix (i + 5) sL o = o := fun {α} o => (hz α o).2.2.2.2
  unfold f_law_4
  simp only [z1, z2, z3, z4, z5]
  generalize xs (i + 1).toNatClampNeg = x1
  generalize xs (i + 2).toNatClampNeg = x2
  generalize xs (i + 3).toNatClampNeg = x3
  generalize xs (i + 4).toNatClampNeg = x4
  generalize xs (i + 5).toNatClampNeg = x5
  rcases st_create hc H x1 x2 x3 x4 x5 with ⟨E, cd, q, S', e1, e2, e3, e4, e5⟩ | ⟨q, T', U', L', S', e1, e2, e3, e4⟩
  · have hL : f_L_create B P T U L O x1 x2 x3 x4 x5 = some (cd, T, U, L, O) := by
      unfold f_L_create
      rcases e2 with ⟨h1, h2⟩ | ⟨h1, h2⟩ | ⟨h1, h2⟩
      · rw [e1, h1, h2, zca_l, if_pos rfl]
      · rw [e1, h1, h2, zca_l, if_neg sne1, if_pos rfl]
      · rw [e1, h1, h2, zca_l, if_neg sne2, if_neg sne3, if_pos rfl]
    have hcd : ¬ cd = 0 := by
      rcases e2 with ⟨_, h2⟩ | ⟨_, h2⟩ | ⟨_, h2⟩
      · rw [h2]; decide
      · rw [h2]; decide
      · rw [h2]; decide
    have hT : f_X8_thrown S' = some cd := congrArg some e4
    rw [hL, zbs]
    simp only [e3, zbs, hT]
    rw [if_pos trivial, if_neg hcd]
    exact hk _ _ _ _ _ _ _ _ _ _ e5
  · have hL : f_L_create B P T U L O x1 x2 x3 x4 x5 = some (0, T', U', L', vp_updL O (0 : Int32).toNatClampNeg q.toInt64) := by
      unfold f_L_create
      rw [e1, zca_r]
      exact zix0 1 (by decide) _
    have hT : f_X8_thrown S' = some 0 := congrArg some e3
    rw [hL, zbs]
    simp only [e2, zbs, hT]
    rw [if_pos trivial, if_pos trivial, zix0 1 (by decide)]
    rw [uO, lgc, if_pos rfl]
    exact hk _ _ _ _ _ _ _ _ _ _ e4
theorem sp_5 {xs : Nat → Int32} {sL c : Nat} {i : Int32} {k : SS → SS → SS → SS → SS → SS → SL → SL → SS → SL → Option Int32} {B P M T K U : SS} {L O : SL} {S : SS} {V : SL} (hc : c < 512) (hz : in5 sL i) (H : Inv c B P M T K U L S V) (hk : okk c k) : f_law_5 xs sL i k B P M T K U L O S V = some 1 := by
  have z1 : ∀ {α : Type} (o : Option α), zix (i + 1) sL o = o := fun {α} o => (hz α o).1
  have z2 : ∀ {α : Type} (o : Option α), zix (i + 2) sL o = o := fun {α} o => (hz α o).2.1
  unfold f_law_5
  simp only [z1, z2]
  generalize xs (i + 1).toNatClampNeg = x1
  generalize xs (i + 2).toNatClampNeg = x2
  rcases st_renew hc H x1 x2 with ⟨E, cd, q, S', e1, e2, e3, e4, e5⟩ | ⟨q, T', U', L', S', e1, e2, e3, e4⟩
  · have hL : f_L_renew B T U L O x1 x2 = some (cd, T, U, L, O) := by
      unfold f_L_renew
      rcases e2 with ⟨h1, h2⟩ | ⟨h1, h2⟩ | ⟨h1, h2⟩
      · rw [e1, h1, h2, zca_l, if_pos rfl]
      · rw [e1, h1, h2, zca_l, if_neg sne1, if_pos rfl]
      · rw [e1, h1, h2, zca_l, if_neg sne2, if_neg sne3, if_pos rfl]
    have hcd : ¬ cd = 0 := by
      rcases e2 with ⟨_, h2⟩ | ⟨_, h2⟩ | ⟨_, h2⟩
      · rw [h2]; decide
      · rw [h2]; decide
      · rw [h2]; decide
    have hT : f_X8_thrown S' = some cd := congrArg some e4
    rw [hL, zbs]
    simp only [e3, zbs, hT]
    rw [if_pos trivial, if_neg hcd]
    exact hk _ _ _ _ _ _ _ _ _ _ e5
  · have hL : f_L_renew B T U L O x1 x2 = some (0, T', U', L', vp_updL O (0 : Int32).toNatClampNeg q.toInt64) := by
      unfold f_L_renew
      rw [e1, zca_r]
      exact zix0 1 (by decide) _
    have hT : f_X8_thrown S' = some 0 := congrArg some e3
    rw [hL, zbs]
    simp only [e2, zbs, hT]
    rw [if_pos trivial, if_pos trivial, zix0 1 (by decide)]
    rw [uO, lgc, if_pos rfl]
    exact hk _ _ _ _ _ _ _ _ _ _ e4
theorem sp_6 {xs : Nat → Int32} {sL c : Nat} {i : Int32} {k : SS → SS → SS → SS → SS → SS → SL → SL → SS → SL → Option Int32} {B P M T K U : SS} {L O : SL} {S : SS} {V : SL} (hc : c < 512) (hz : in5 sL i) (H : Inv c B P M T K U L S V) (hk : okk c k) : f_law_6 xs sL i k B P M T K U L O S V = some 1 := by
  have z1 : ∀ {α : Type} (o : Option α), zix (i + 1) sL o = o := fun {α} o => (hz α o).1
  unfold f_law_6
  simp only [z1]
  generalize xs (i + 1).toNatClampNeg = x1
  rcases st_revoke hc H x1 with ⟨E, cd, q, S', e1, e2, e3, e4, e5⟩ | ⟨q, T', K', U', L', S', e1, e2, e3, e4⟩
  · have hL : f_L_revoke B T K U L O x1 = some (cd, T, K, U, L, O) := by
      unfold f_L_revoke
      rcases e2 with ⟨h1, h2⟩ | ⟨h1, h2⟩
      · rw [e1, h1, h2, zca_l, if_pos rfl]
      · rw [e1, h1, h2, zca_l, if_neg sne2, if_pos rfl]
    have hcd : ¬ cd = 0 := by
      rcases e2 with ⟨_, h2⟩ | ⟨_, h2⟩
      · rw [h2]; decide
      · rw [h2]; decide
    have hT : f_X8_thrown S' = some cd := congrArg some e4
    rw [hL, zbs]
    simp only [e3, zbs, hT]
    rw [if_pos trivial, if_neg hcd]
    exact hk _ _ _ _ _ _ _ _ _ _ e5
  · have hL : f_L_revoke B T K U L O x1 = some (0, T', K', U', L', vp_updL O (0 : Int32).toNatClampNeg q.toInt64) := by
      unfold f_L_revoke
      rw [e1, zca_r]
      exact zix0 1 (by decide) _
    have hT : f_X8_thrown S' = some 0 := congrArg some e3
    rw [hL, zbs]
    simp only [e2, zbs, hT]
    rw [if_pos trivial, if_pos trivial, zix0 1 (by decide)]
    rw [uO, lgc, if_pos rfl]
    exact hk _ _ _ _ _ _ _ _ _ _ e4
theorem sp_7 {xs : Nat → Int32} {sL c : Nat} {i : Int32} {k : SS → SS → SS → SS → SS → SS → SL → SL → SS → SL → Option Int32} {B P M T K U : SS} {L O : SL} {S : SS} {V : SL} (hc : c < 512) (hz : in5 sL i) (H : Inv c B P M T K U L S V) (hk : okk c k) : f_law_7 xs sL i k B P M T K U L O S V = some 1 := by
  have z1 : ∀ {α : Type} (o : Option α), zix (i + 1) sL o = o := fun {α} o => (hz α o).1
  unfold f_law_7
  simp only [z1]
  generalize xs (i + 1).toNatClampNeg = x1
  rcases st_revokeAlone hc H x1 with ⟨E, cd, q, S', e1, e2, e3, e4, e5⟩ | ⟨q, T', K', U', L', S', e1, e2, e3, e4⟩
  · have hL : f_L_revokeAlone B T K U L O x1 = some (cd, T, K, U, L, O) := by
      unfold f_L_revokeAlone
      rcases e2 with ⟨h1, h2⟩ | ⟨h1, h2⟩
      · rw [e1, h1, h2, zca_l, if_pos rfl]
      · rw [e1, h1, h2, zca_l, if_neg sne2, if_pos rfl]
    have hcd : ¬ cd = 0 := by
      rcases e2 with ⟨_, h2⟩ | ⟨_, h2⟩
      · rw [h2]; decide
      · rw [h2]; decide
    have hT : f_X8_thrown S' = some cd := congrArg some e4
    rw [hL, zbs]
    simp only [e3, zbs, hT]
    rw [if_pos trivial, if_neg hcd]
    exact hk _ _ _ _ _ _ _ _ _ _ e5
  · have hL : f_L_revokeAlone B T K U L O x1 = some (0, T', K', U', L', vp_updL O (0 : Int32).toNatClampNeg q.toInt64) := by
      unfold f_L_revokeAlone
      rw [e1, zca_r]
      exact zix0 1 (by decide) _
    have hT : f_X8_thrown S' = some 0 := congrArg some e3
    rw [hL, zbs]
    simp only [e2, zbs, hT]
    rw [if_pos trivial, if_pos trivial, zix0 1 (by decide)]
    rw [uO, lgc, if_pos rfl]
    exact hk _ _ _ _ _ _ _ _ _ _ e4
theorem sp_8 {xs : Nat → Int32} {sL c : Nat} {i : Int32} {k : SS → SS → SS → SS → SS → SS → SL → SL → SS → SL → Option Int32} {B P M T K U : SS} {L O : SL} {S : SS} {V : SL} (hc : c < 512) (hz : in5 sL i) (H : Inv c B P M T K U L S V) (hk : okk c k) : f_law_8 xs sL i k B P M T K U L O S V = some 1 := by
  have z1 : ∀ {α : Type} (o : Option α), zix (i + 1) sL o = o := fun {α} o => (hz α o).1
  unfold f_law_8
  simp only [z1]
  generalize xs (i + 1).toNatClampNeg = x1
  rcases st_isAlive hc H x1 with ⟨q, S', e1, e3, e4, e5⟩ | ⟨q, S', e1, e2, e3, e4⟩
  · have hL : f_L_isAlive T O x1 = some (1, O) := by
      unfold f_L_isAlive
      rw [e1, zca_l, if_pos rfl]
    have hcd : ¬ (1 : Int32) = 0 := by decide
    have hT : f_X8_thrown S' = some 1 := congrArg some e4
    rw [hL, zbs]
    simp only [e3, zbs, hT]
    rw [if_pos trivial, if_neg hcd]
    exact hk _ _ _ _ _ _ _ _ _ _ e5
  · have hL : f_L_isAlive T O x1 = some (0, vp_updL O (0 : Int32).toNatClampNeg (if q = 0 then 0 else 1)) := by
      unfold f_L_isAlive
      rw [e1, zca_r]
      by_cases h0 : q = 0
      · rw [if_pos h0, if_pos h0]
        exact zix0 1 (by decide) _
      · rw [if_neg h0, if_neg h0]
        exact zix0 1 (by decide) _
    have hT : f_X8_thrown S' = some 0 := congrArg some e3
    rw [hL, zbs]
    simp only [e2, zbs, hT]
    rw [if_pos trivial, if_pos trivial, zix0 1 (by decide)]
    by_cases h0 : q = 0
    · rw [if_pos h0, if_pos h0, uO, lgc, if_pos rfl]
      exact hk _ _ _ _ _ _ _ _ _ _ e4
    · rw [if_neg h0, if_neg h0, uO, lgc, if_pos rfl]
      exact hk _ _ _ _ _ _ _ _ _ _ e4
theorem sp_9 {xs : Nat → Int32} {sL c : Nat} {i : Int32} {k : SS → SS → SS → SS → SS → SS → SL → SL → SS → SL → Option Int32} {B P M T K U : SS} {L O : SL} {S : SS} {V : SL} (hc : c < 512) (hz : in5 sL i) (H : Inv c B P M T K U L S V) (hk : okk c k) : f_law_9 xs sL i k B P M T K U L O S V = some 1 := by
  have z1 : ∀ {α : Type} (o : Option α), zix (i + 1) sL o = o := fun {α} o => (hz α o).1
  unfold f_law_9
  simp only [z1]
  generalize xs (i + 1).toNatClampNeg = x1
  rcases st_parentOf hc H x1 with ⟨q, S', e1, e3, e4, e5⟩ | ⟨q, S', e1, e2, e3, e4⟩
  · have hL : f_L_parentOf T O x1 = some (1, O) := by
      unfold f_L_parentOf
      rw [e1, zca_l, if_pos rfl]
    have hcd : ¬ (1 : Int32) = 0 := by decide
    have hT : f_X8_thrown S' = some 1 := congrArg some e4
    rw [hL, zbs]
    simp only [e3, zbs, hT]
    rw [if_pos trivial, if_neg hcd]
    exact hk _ _ _ _ _ _ _ _ _ _ e5
  · have hL : f_L_parentOf T O x1 = some (0, vp_updL O (0 : Int32).toNatClampNeg q.toInt64) := by
      unfold f_L_parentOf
      rw [e1, zca_r]
      exact zix0 1 (by decide) _
    have hT : f_X8_thrown S' = some 0 := congrArg some e3
    rw [hL, zbs]
    simp only [e2, zbs, hT]
    rw [if_pos trivial, if_pos trivial, zix0 1 (by decide)]
    rw [uO, lgc, if_pos rfl]
    exact hk _ _ _ _ _ _ _ _ _ _ e4
theorem sp_10 {xs : Nat → Int32} {sL c : Nat} {i : Int32} {k : SS → SS → SS → SS → SS → SS → SL → SL → SS → SL → Option Int32} {B P M T K U : SS} {L O : SL} {S : SS} {V : SL} (hc : c < 512) (hz : in5 sL i) (H : Inv c B P M T K U L S V) (hk : okk c k) : f_law_10 xs sL i k B P M T K U L O S V = some 1 := by
  have z1 : ∀ {α : Type} (o : Option α), zix (i + 1) sL o = o := fun {α} o => (hz α o).1
  unfold f_law_10
  simp only [z1]
  generalize xs (i + 1).toNatClampNeg = x1
  rcases st_endOf hc H x1 with ⟨q, S', e1, e3, e4, e5⟩ | ⟨q, S', e1, e2, e3, e4⟩
  · have hL : f_L_endOf T O x1 = some (1, O) := by
      unfold f_L_endOf
      rw [e1, zca_l, if_pos rfl]
    have hcd : ¬ (1 : Int32) = 0 := by decide
    have hT : f_X8_thrown S' = some 1 := congrArg some e4
    rw [hL, zbs]
    simp only [e3, zbs, hT]
    rw [if_pos trivial, if_neg hcd]
    exact hk _ _ _ _ _ _ _ _ _ _ e5
  · have hL : f_L_endOf T O x1 = some (0, vp_updL O (0 : Int32).toNatClampNeg q.toInt64) := by
      unfold f_L_endOf
      rw [e1, zca_r]
      exact zix0 1 (by decide) _
    have hT : f_X8_thrown S' = some 0 := congrArg some e3
    rw [hL, zbs]
    simp only [e2, zbs, hT]
    rw [if_pos trivial, if_pos trivial, zix0 1 (by decide)]
    rw [uO, lgc, if_pos rfl]
    exact hk _ _ _ _ _ _ _ _ _ _ e4
theorem sp_11 {xs : Nat → Int32} {sL c : Nat} {i : Int32} {k : SS → SS → SS → SS → SS → SS → SL → SL → SS → SL → Option Int32} {B P M T K U : SS} {L O : SL} {S : SS} {V : SL} (hc : c < 512) (hz : in5 sL i) (H : Inv c B P M T K U L S V) (hk : okk c k) : f_law_11 xs sL i k B P M T K U L O S V = some 1 := by
  have z1 : ∀ {α : Type} (o : Option α), zix (i + 1) sL o = o := fun {α} o => (hz α o).1
  unfold f_law_11
  simp only [z1]
  generalize xs (i + 1).toNatClampNeg = x1
  rcases st_usesLeft hc H x1 with ⟨q, S', e1, e3, e4, e5⟩ | ⟨q, S', e1, e2, e3, e4⟩
  · have hL : f_L_usesLeft T O x1 = some (1, O) := by
      unfold f_L_usesLeft
      rw [e1, zca_l, if_pos rfl]
    have hcd : ¬ (1 : Int32) = 0 := by decide
    have hT : f_X8_thrown S' = some 1 := congrArg some e4
    rw [hL, zbs]
    simp only [e3, zbs, hT]
    rw [if_pos trivial, if_neg hcd]
    exact hk _ _ _ _ _ _ _ _ _ _ e5
  · have hL : f_L_usesLeft T O x1 = some (0, vp_updL O (0 : Int32).toNatClampNeg q.toInt64) := by
      unfold f_L_usesLeft
      rw [e1, zca_r]
      exact zix0 1 (by decide) _
    have hT : f_X8_thrown S' = some 0 := congrArg some e3
    rw [hL, zbs]
    simp only [e2, zbs, hT]
    rw [if_pos trivial, if_pos trivial, zix0 1 (by decide)]
    rw [uO, lgc, if_pos rfl]
    exact hk _ _ _ _ _ _ _ _ _ _ e4
theorem sp_12 {xs : Nat → Int32} {sL c : Nat} {i : Int32} {k : SS → SS → SS → SS → SS → SS → SL → SL → SS → SL → Option Int32} {B P M T K U : SS} {L O : SL} {S : SS} {V : SL} (hc : c < 512) (hz : in5 sL i) (H : Inv c B P M T K U L S V) (hk : okk c k) : f_law_12 xs sL i k B P M T K U L O S V = some 1 := by
  have z1 : ∀ {α : Type} (o : Option α), zix (i + 1) sL o = o := fun {α} o => (hz α o).1
  unfold f_law_12
  simp only [z1]
  generalize xs (i + 1).toNatClampNeg = x1
  rcases st_below hc H x1 with ⟨q, S', e1, e3, e4, e5⟩ | ⟨q, S', e1, e2, e3, e4⟩
  · have hL : f_L_below T O x1 = some (1, O) := by
      unfold f_L_below
      rw [e1, zca_l, if_pos rfl]
    have hcd : ¬ (1 : Int32) = 0 := by decide
    have hT : f_X8_thrown S' = some 1 := congrArg some e4
    rw [hL, zbs]
    simp only [e3, zbs, hT]
    rw [if_pos trivial, if_neg hcd]
    exact hk _ _ _ _ _ _ _ _ _ _ e5
  · have hL : f_L_below T O x1 = some (0, vp_updL O (0 : Int32).toNatClampNeg q.toInt64) := by
      unfold f_L_below
      rw [e1, zca_r]
      exact zix0 1 (by decide) _
    have hT : f_X8_thrown S' = some 0 := congrArg some e3
    rw [hL, zbs]
    simp only [e2, zbs, hT]
    rw [if_pos trivial, if_pos trivial, zix0 1 (by decide)]
    rw [uO, lgc, if_pos rfl]
    exact hk _ _ _ _ _ _ _ _ _ _ e4
theorem sp_14 {xs : Nat → Int32} {sL c : Nat} {i : Int32} {k : SS → SS → SS → SS → SS → SS → SL → SL → SS → SL → Option Int32} {B P M T K U : SS} {L O : SL} {S : SS} {V : SL} (hc : c < 512) (hz : in5 sL i) (H : Inv c B P M T K U L S V) (hk : okk c k) : f_law_14 xs sL i k B P M T K U L O S V = some 1 := by
  have z1 : ∀ {α : Type} (o : Option α), zix (i + 1) sL o = o := fun {α} o => (hz α o).1
  have z2 : ∀ {α : Type} (o : Option α), zix (i + 2) sL o = o := fun {α} o => (hz α o).2.1
  unfold f_law_14
  simp only [z1, z2]
  generalize xs (i + 1).toNatClampNeg = x1
  generalize xs (i + 2).toNatClampNeg = x2
  rcases st_capabilities hc H x1 x2 with ⟨E, cd, q, S', e1, e2, e3, e4, e5⟩ | ⟨q, S', e1, e2, e3, e4⟩
  · have hL : f_L_capabilities P T O x1 x2 = some (cd, O) := by
      unfold f_L_capabilities
      rcases e2 with ⟨h1, h2⟩ | ⟨h1, h2⟩
      · rw [e1, h1, h2, zca_l, if_pos rfl]
      · rw [e1, h1, h2, zca_l, if_neg sne1, if_pos rfl]
    have hcd : ¬ cd = 0 := by
      rcases e2 with ⟨_, h2⟩ | ⟨_, h2⟩
      · rw [h2]; decide
      · rw [h2]; decide
    have hT : f_X8_thrown S' = some cd := congrArg some e4
    rw [hL, zbs]
    simp only [e3, zbs, hT]
    rw [if_pos trivial, if_neg hcd]
    exact hk _ _ _ _ _ _ _ _ _ _ e5
  · have hL : f_L_capabilities P T O x1 x2 = some (0, vp_updL O (0 : Int32).toNatClampNeg q.toInt64) := by
      unfold f_L_capabilities
      rw [e1, zca_r]
      exact zix0 1 (by decide) _
    have hT : f_X8_thrown S' = some 0 := congrArg some e3
    rw [hL, zbs]
    simp only [e2, zbs, hT]
    rw [if_pos trivial, if_pos trivial, zix0 1 (by decide)]
    rw [uO, lgc, if_pos rfl]
    exact hk _ _ _ _ _ _ _ _ _ _ e4
theorem sp_15 {xs : Nat → Int32} {sL c : Nat} {i : Int32} {k : SS → SS → SS → SS → SS → SS → SL → SL → SS → SL → Option Int32} {B P M T K U : SS} {L O : SL} {S : SS} {V : SL} (hc : c < 512) (hz : in5 sL i) (H : Inv c B P M T K U L S V) (hk : okk c k) : f_law_15 xs sL i k B P M T K U L O S V = some 1 := by
  have z1 : ∀ {α : Type} (o : Option α), zix (i + 1) sL o = o := fun {α} o => (hz α o).1
  have z2 : ∀ {α : Type} (o : Option α), zix (i + 2) sL o = o := fun {α} o => (hz α o).2.1
  unfold f_law_15
  simp only [z1, z2]
  generalize xs (i + 1).toNatClampNeg = x1
  generalize xs (i + 2).toNatClampNeg = x2
  rcases st_request hc H x1 x2 with ⟨E, cd, q, S', e1, e2, e3, e4, e5⟩ | ⟨q, T', K', U', L', S', e1, e2, e3, e4⟩
  · have hL : f_L_request B P M T K U L O x1 x2 = some (cd, T, K, U, L, O) := by
      unfold f_L_request
      rcases e2 with ⟨h1, h2⟩ | ⟨h1, h2⟩ | ⟨h1, h2⟩
      · rw [e1, h1, h2, zca_l, if_pos rfl]
      · rw [e1, h1, h2, zca_l, if_neg sne1, if_pos rfl]
      · rw [e1, h1, h2, zca_l, if_neg sne2, if_neg sne3, if_pos rfl]
    have hcd : ¬ cd = 0 := by
      rcases e2 with ⟨_, h2⟩ | ⟨_, h2⟩ | ⟨_, h2⟩
      · rw [h2]; decide
      · rw [h2]; decide
      · rw [h2]; decide
    have hT : f_X8_thrown S' = some cd := congrArg some e4
    rw [hL, zbs]
    simp only [e3, zbs, hT]
    rw [if_pos trivial, if_neg hcd]
    exact hk _ _ _ _ _ _ _ _ _ _ e5
  · have hL : f_L_request B P M T K U L O x1 x2 = some (0, T', K', U', L', vp_updL O (0 : Int32).toNatClampNeg q.toInt64) := by
      unfold f_L_request
      rw [e1, zca_r]
      exact zix0 1 (by decide) _
    have hT : f_X8_thrown S' = some 0 := congrArg some e3
    rw [hL, zbs]
    simp only [e2, zbs, hT]
    rw [if_pos trivial, if_pos trivial, zix0 1 (by decide)]
    rw [uO, lgc, if_pos rfl]
    exact hk _ _ _ _ _ _ _ _ _ _ e4
theorem sp_16 {xs : Nat → Int32} {sL c : Nat} {i : Int32} {k : SS → SS → SS → SS → SS → SS → SL → SL → SS → SL → Option Int32} {B P M T K U : SS} {L O : SL} {S : SS} {V : SL} (hc : c < 512) (hz : in5 sL i) (H : Inv c B P M T K U L S V) (hk : okk c k) : f_law_16 xs sL i k B P M T K U L O S V = some 1 := by
  have z1 : ∀ {α : Type} (o : Option α), zix (i + 1) sL o = o := fun {α} o => (hz α o).1
  have z2 : ∀ {α : Type} (o : Option α), zix (i + 2) sL o = o := fun {α} o => (hz α o).2.1
  unfold f_law_16
  simp only [z1, z2]
  generalize xs (i + 1).toNatClampNeg = x1
  generalize xs (i + 2).toNatClampNeg = x2
  rcases st_whyDenied hc H x1 x2 with ⟨E, cd, q, S', e1, e2, e3, e4, e5⟩ | ⟨q, S', e1, e2, e3, e4⟩
  · have hL : f_L_whyDenied P M T O x1 x2 = some (cd, O) := by
      unfold f_L_whyDenied
      rcases e2 with ⟨h1, h2⟩ | ⟨h1, h2⟩
      · rw [e1, h1, h2, zca_l, if_pos rfl]
      · rw [e1, h1, h2, zca_l, if_neg sne1, if_pos rfl]
    have hcd : ¬ cd = 0 := by
      rcases e2 with ⟨_, h2⟩ | ⟨_, h2⟩
      · rw [h2]; decide
      · rw [h2]; decide
    have hT : f_X8_thrown S' = some cd := congrArg some e4
    rw [hL, zbs]
    simp only [e3, zbs, hT]
    rw [if_pos trivial, if_neg hcd]
    exact hk _ _ _ _ _ _ _ _ _ _ e5
  · have hL : f_L_whyDenied P M T O x1 x2 = some (0, vp_updL O (0 : Int32).toNatClampNeg q.toInt64) := by
      unfold f_L_whyDenied
      rw [e1, zca_r]
      exact zix0 1 (by decide) _
    have hT : f_X8_thrown S' = some 0 := congrArg some e3
    rw [hL, zbs]
    simp only [e2, zbs, hT]
    rw [if_pos trivial, if_pos trivial, zix0 1 (by decide)]
    rw [uO, lgc, if_pos rfl]
    exact hk _ _ _ _ _ _ _ _ _ _ e4
theorem sp_17 {xs : Nat → Int32} {sL c : Nat} {i : Int32} {k : SS → SS → SS → SS → SS → SS → SL → SL → SS → SL → Option Int32} {B P M T K U : SS} {L O : SL} {S : SS} {V : SL} (hc : c < 512) (hz : in5 sL i) (H : Inv c B P M T K U L S V) (hk : okk c k) : f_law_17 xs sL i k B P M T K U L O S V = some 1 := by
  have z1 : ∀ {α : Type} (o : Option α), zix (i + 1) sL o = o := fun {α} o => (hz α o).1
  have z2 : ∀ {α : Type} (o : Option α), zix (i + 2) sL o = o := fun {α} o => (hz α o).2.1
  unfold f_law_17
  simp only [z1, z2]
  generalize xs (i + 1).toNatClampNeg = x1
  generalize xs (i + 2).toNatClampNeg = x2
  rcases st_renewCredential hc H x1 x2 with ⟨E, cd, q, S', e1, e2, e3, e4, e5⟩ | ⟨q, K', U', L', S', e1, e2, e3, e4⟩
  · have hL : f_L_renewCredential B K U L O x1 x2 = some (cd, K, U, L, O) := by
      unfold f_L_renewCredential
      rcases e2 with ⟨h1, h2⟩ | ⟨h1, h2⟩ | ⟨h1, h2⟩
      · rw [e1, h1, h2, zca_l, if_pos rfl]
      · rw [e1, h1, h2, zca_l, if_neg sne1, if_pos rfl]
      · rw [e1, h1, h2, zca_l, if_neg sne2, if_neg sne3, if_pos rfl]
    have hcd : ¬ cd = 0 := by
      rcases e2 with ⟨_, h2⟩ | ⟨_, h2⟩ | ⟨_, h2⟩
      · rw [h2]; decide
      · rw [h2]; decide
      · rw [h2]; decide
    have hT : f_X8_thrown S' = some cd := congrArg some e4
    rw [hL, zbs]
    simp only [e3, zbs, hT]
    rw [if_pos trivial, if_neg hcd]
    exact hk _ _ _ _ _ _ _ _ _ _ e5
  · have hL : f_L_renewCredential B K U L O x1 x2 = some (0, K', U', L', vp_updL O (0 : Int32).toNatClampNeg q.toInt64) := by
      unfold f_L_renewCredential
      rw [e1, zca_r]
      exact zix0 1 (by decide) _
    have hT : f_X8_thrown S' = some 0 := congrArg some e3
    rw [hL, zbs]
    simp only [e2, zbs, hT]
    rw [if_pos trivial, if_pos trivial, zix0 1 (by decide)]
    rw [uO, lgc, if_pos rfl]
    exact hk _ _ _ _ _ _ _ _ _ _ e4
theorem sp_18 {xs : Nat → Int32} {sL c : Nat} {i : Int32} {k : SS → SS → SS → SS → SS → SS → SL → SL → SS → SL → Option Int32} {B P M T K U : SS} {L O : SL} {S : SS} {V : SL} (hc : c < 512) (hz : in5 sL i) (H : Inv c B P M T K U L S V) (hk : okk c k) : f_law_18 xs sL i k B P M T K U L O S V = some 1 := by
  have z1 : ∀ {α : Type} (o : Option α), zix (i + 1) sL o = o := fun {α} o => (hz α o).1
  unfold f_law_18
  simp only [z1]
  generalize xs (i + 1).toNatClampNeg = x1
  rcases st_revokeBelow hc H x1 with ⟨q, S', e1, e3, e4, e5⟩ | ⟨q, K', U', L', S', e1, e2, e3, e4⟩
  · have hL : f_L_revokeBelow B K U L O x1 = some (1, K, U, L, O) := by
      unfold f_L_revokeBelow
      rw [e1, zca_l, if_pos rfl]
    have hcd : ¬ (1 : Int32) = 0 := by decide
    have hT : f_X8_thrown S' = some 1 := congrArg some e4
    rw [hL, zbs]
    simp only [e3, zbs, hT]
    rw [if_pos trivial, if_neg hcd]
    exact hk _ _ _ _ _ _ _ _ _ _ e5
  · have hL : f_L_revokeBelow B K U L O x1 = some (0, K', U', L', vp_updL O (0 : Int32).toNatClampNeg q.toInt64) := by
      unfold f_L_revokeBelow
      rw [e1, zca_r]
      exact zix0 1 (by decide) _
    have hT : f_X8_thrown S' = some 0 := congrArg some e3
    rw [hL, zbs]
    simp only [e2, zbs, hT]
    rw [if_pos trivial, if_pos trivial, zix0 1 (by decide)]
    rw [uO, lgc, if_pos rfl]
    exact hk _ _ _ _ _ _ _ _ _ _ e4
theorem sp_19 {xs : Nat → Int32} {sL c : Nat} {i : Int32} {k : SS → SS → SS → SS → SS → SS → SL → SL → SS → SL → Option Int32} {B P M T K U : SS} {L O : SL} {S : SS} {V : SL} (hc : c < 512) (hz : in5 sL i) (H : Inv c B P M T K U L S V) (hk : okk c k) : f_law_19 xs sL i k B P M T K U L O S V = some 1 := by
  have z1 : ∀ {α : Type} (o : Option α), zix (i + 1) sL o = o := fun {α} o => (hz α o).1
  unfold f_law_19
  simp only [z1]
  generalize xs (i + 1).toNatClampNeg = x1
  rcases st_works hc H x1 with ⟨q, S', e1, e3, e4, e5⟩ | ⟨q, S', e1, e2, e3, e4⟩
  · have hL : f_L_works K O x1 = some (1, O) := by
      unfold f_L_works
      rw [e1, zca_l, if_pos rfl]
    have hcd : ¬ (1 : Int32) = 0 := by decide
    have hT : f_X8_thrown S' = some 1 := congrArg some e4
    rw [hL, zbs]
    simp only [e3, zbs, hT]
    rw [if_pos trivial, if_neg hcd]
    exact hk _ _ _ _ _ _ _ _ _ _ e5
  · have hL : f_L_works K O x1 = some (0, vp_updL O (0 : Int32).toNatClampNeg (if q = 0 then 0 else 1)) := by
      unfold f_L_works
      rw [e1, zca_r]
      by_cases h0 : q = 0
      · rw [if_pos h0, if_pos h0]
        exact zix0 1 (by decide) _
      · rw [if_neg h0, if_neg h0]
        exact zix0 1 (by decide) _
    have hT : f_X8_thrown S' = some 0 := congrArg some e3
    rw [hL, zbs]
    simp only [e2, zbs, hT]
    rw [if_pos trivial, if_pos trivial, zix0 1 (by decide)]
    by_cases h0 : q = 0
    · rw [if_pos h0, if_pos h0, uO, lgc, if_pos rfl]
      exact hk _ _ _ _ _ _ _ _ _ _ e4
    · rw [if_neg h0, if_neg h0, uO, lgc, if_pos rfl]
      exact hk _ _ _ _ _ _ _ _ _ _ e4
theorem sp_20 {xs : Nat → Int32} {sL c : Nat} {i : Int32} {k : SS → SS → SS → SS → SS → SS → SL → SL → SS → SL → Option Int32} {B P M T K U : SS} {L O : SL} {S : SS} {V : SL} (hc : c < 512) (hz : in5 sL i) (H : Inv c B P M T K U L S V) (hk : okk c k) : f_law_20 xs sL i k B P M T K U L O S V = some 1 := by
  have z1 : ∀ {α : Type} (o : Option α), zix (i + 1) sL o = o := fun {α} o => (hz α o).1
  unfold f_law_20
  simp only [z1]
  generalize xs (i + 1).toNatClampNeg = x1
  rcases st_endOfCredential hc H x1 with ⟨q, S', e1, e3, e4, e5⟩ | ⟨q, S', e1, e2, e3, e4⟩
  · have hL : f_L_endOfCredential K O x1 = some (1, O) := by
      unfold f_L_endOfCredential
      rw [e1, zca_l, if_pos rfl]
    have hcd : ¬ (1 : Int32) = 0 := by decide
    have hT : f_X8_thrown S' = some 1 := congrArg some e4
    rw [hL, zbs]
    simp only [e3, zbs, hT]
    rw [if_pos trivial, if_neg hcd]
    exact hk _ _ _ _ _ _ _ _ _ _ e5
  · have hL : f_L_endOfCredential K O x1 = some (0, vp_updL O (0 : Int32).toNatClampNeg q.toInt64) := by
      unfold f_L_endOfCredential
      rw [e1, zca_r]
      exact zix0 1 (by decide) _
    have hT : f_X8_thrown S' = some 0 := congrArg some e3
    rw [hL, zbs]
    simp only [e2, zbs, hT]
    rw [if_pos trivial, if_pos trivial, zix0 1 (by decide)]
    rw [uO, lgc, if_pos rfl]
    exact hk _ _ _ _ _ _ _ _ _ _ e4
theorem sp_22 {xs : Nat → Int32} {sL c : Nat} {i : Int32} {k : SS → SS → SS → SS → SS → SS → SL → SL → SS → SL → Option Int32} {B P M T K U : SS} {L O : SL} {S : SS} {V : SL} (hc : c < 512) (hz : in5 sL i) (H : Inv c B P M T K U L S V) (hk : okk c k) : f_law_22 xs sL i k B P M T K U L O S V = some 1 := by
  have z1 : ∀ {α : Type} (o : Option α), zix (i + 1) sL o = o := fun {α} o => (hz α o).1
  unfold f_law_22
  simp only [z1]
  generalize xs (i + 1).toNatClampNeg = x1
  rcases st_credentialsOf hc H x1 with ⟨q, S', e1, e3, e4, e5⟩ | ⟨q, S', e1, e2, e3, e4⟩
  · have hL : f_L_credentialsOf T K O x1 = some (1, O) := by
      unfold f_L_credentialsOf
      rw [e1, zca_l, if_pos rfl]
    have hcd : ¬ (1 : Int32) = 0 := by decide
    have hT : f_X8_thrown S' = some 1 := congrArg some e4
    rw [hL, zbs]
    simp only [e3, zbs, hT]
    rw [if_pos trivial, if_neg hcd]
    exact hk _ _ _ _ _ _ _ _ _ _ e5
  · have hL : f_L_credentialsOf T K O x1 = some (0, vp_updL O (0 : Int32).toNatClampNeg q.toInt64) := by
      unfold f_L_credentialsOf
      rw [e1, zca_r]
      exact zix0 1 (by decide) _
    have hT : f_X8_thrown S' = some 0 := congrArg some e3
    rw [hL, zbs]
    simp only [e2, zbs, hT]
    rw [if_pos trivial, if_pos trivial, zix0 1 (by decide)]
    rw [uO, lgc, if_pos rfl]
    exact hk _ _ _ _ _ _ _ _ _ _ e4
theorem sp_23 {xs : Nat → Int32} {sL c : Nat} {i : Int32} {k : SS → SS → SS → SS → SS → SS → SL → SL → SS → SL → Option Int32} {B P M T K U : SS} {L O : SL} {S : SS} {V : SL} (hc : c < 512) (hz : in5 sL i) (H : Inv c B P M T K U L S V) (hk : okk c k) : f_law_23 xs sL i k B P M T K U L O S V = some 1 := by
  have z1 : ∀ {α : Type} (o : Option α), zix (i + 1) sL o = o := fun {α} o => (hz α o).1
  unfold f_law_23
  simp only [z1]
  generalize xs (i + 1).toNatClampNeg = x1
  rcases st_pass hc H x1 with ⟨q, S', e1, e3, e4, e5⟩ | ⟨q, B', T', K', U', L', S', e1, e2, e3, e4⟩
  · have hL : f_L_pass B T K U L O x1 = some (1, B, T, K, U, L, O) := by
      unfold f_L_pass
      rw [e1, zca_l, if_pos rfl]
    have hcd : ¬ (1 : Int32) = 0 := by decide
    have hT : f_X8_thrown S' = some 1 := congrArg some e4
    rw [hL, zbs]
    simp only [e3, zbs, hT]
    rw [if_pos trivial, if_neg hcd]
    exact hk _ _ _ _ _ _ _ _ _ _ e5
  · have hL : f_L_pass B T K U L O x1 = some (0, B', T', K', U', L', vp_updL O (0 : Int32).toNatClampNeg q.toInt64) := by
      unfold f_L_pass
      rw [e1, zca_r]
      exact zix0 1 (by decide) _
    have hT : f_X8_thrown S' = some 0 := congrArg some e3
    rw [hL, zbs]
    simp only [e2, zbs, hT]
    rw [if_pos trivial, if_pos trivial, zix0 1 (by decide)]
    rw [uO, lgc, if_pos rfl]
    exact hk _ _ _ _ _ _ _ _ _ _ e4
theorem sp_27 {xs : Nat → Int32} {sL c : Nat} {i : Int32} {k : SS → SS → SS → SS → SS → SS → SL → SL → SS → SL → Option Int32} {B P M T K U : SS} {L O : SL} {S : SS} {V : SL} (hc : c < 512) (hz : in5 sL i) (H : Inv c B P M T K U L S V) (hk : okk c k) : f_law_27 xs sL i k B P M T K U L O S V = some 1 := by
  have z1 : ∀ {α : Type} (o : Option α), zix (i + 1) sL o = o := fun {α} o => (hz α o).1
  unfold f_law_27
  simp only [z1]
  generalize xs (i + 1).toNatClampNeg = x1
  rcases st_kindOf hc H x1 with ⟨q, S', e1, e3, e4, e5⟩ | ⟨q, S', e1, e2, e3, e4⟩
  · have hL : f_L_kindOf U O x1 = some (1, O) := by
      unfold f_L_kindOf
      rw [e1, zca_l, if_pos rfl]
    have hcd : ¬ (1 : Int32) = 0 := by decide
    have hT : f_X8_thrown S' = some 1 := congrArg some e4
    rw [hL, zbs]
    simp only [e3, zbs, hT]
    rw [if_pos trivial, if_neg hcd]
    exact hk _ _ _ _ _ _ _ _ _ _ e5
  · have hL : f_L_kindOf U O x1 = some (0, vp_updL O (0 : Int32).toNatClampNeg q.toInt64) := by
      unfold f_L_kindOf
      rw [e1, zca_r]
      exact zix0 1 (by decide) _
    have hT : f_X8_thrown S' = some 0 := congrArg some e3
    rw [hL, zbs]
    simp only [e2, zbs, hT]
    rw [if_pos trivial, if_pos trivial, zix0 1 (by decide)]
    rw [uO, lgc, if_pos rfl]
    exact hk _ _ _ _ _ _ _ _ _ _ e4
theorem sp_28 {xs : Nat → Int32} {sL c : Nat} {i : Int32} {k : SS → SS → SS → SS → SS → SS → SL → SL → SS → SL → Option Int32} {B P M T K U : SS} {L O : SL} {S : SS} {V : SL} (hc : c < 512) (hz : in5 sL i) (H : Inv c B P M T K U L S V) (hk : okk c k) : f_law_28 xs sL i k B P M T K U L O S V = some 1 := by
  have z1 : ∀ {α : Type} (o : Option α), zix (i + 1) sL o = o := fun {α} o => (hz α o).1
  unfold f_law_28
  simp only [z1]
  generalize xs (i + 1).toNatClampNeg = x1
  rcases st_subjectOf hc H x1 with ⟨q, S', e1, e3, e4, e5⟩ | ⟨q, S', e1, e2, e3, e4⟩
  · have hL : f_L_subjectOf U O x1 = some (1, O) := by
      unfold f_L_subjectOf
      rw [e1, zca_l, if_pos rfl]
    have hcd : ¬ (1 : Int32) = 0 := by decide
    have hT : f_X8_thrown S' = some 1 := congrArg some e4
    rw [hL, zbs]
    simp only [e3, zbs, hT]
    rw [if_pos trivial, if_neg hcd]
    exact hk _ _ _ _ _ _ _ _ _ _ e5
  · have hL : f_L_subjectOf U O x1 = some (0, vp_updL O (0 : Int32).toNatClampNeg q.toInt64) := by
      unfold f_L_subjectOf
      rw [e1, zca_r]
      exact zix0 1 (by decide) _
    have hT : f_X8_thrown S' = some 0 := congrArg some e3
    rw [hL, zbs]
    simp only [e2, zbs, hT]
    rw [if_pos trivial, if_pos trivial, zix0 1 (by decide)]
    rw [uO, lgc, if_pos rfl]
    exact hk _ _ _ _ _ _ _ _ _ _ e4
theorem sp_29 {xs : Nat → Int32} {sL c : Nat} {i : Int32} {k : SS → SS → SS → SS → SS → SS → SL → SL → SS → SL → Option Int32} {B P M T K U : SS} {L O : SL} {S : SS} {V : SL} (hc : c < 512) (hz : in5 sL i) (H : Inv c B P M T K U L S V) (hk : okk c k) : f_law_29 xs sL i k B P M T K U L O S V = some 1 := by
  have z1 : ∀ {α : Type} (o : Option α), zix (i + 1) sL o = o := fun {α} o => (hz α o).1
  unfold f_law_29
  simp only [z1]
  generalize xs (i + 1).toNatClampNeg = x1
  rcases st_detailOf hc H x1 with ⟨q, S', e1, e3, e4, e5⟩ | ⟨q, S', e1, e2, e3, e4⟩
  · have hL : f_L_detailOf U O x1 = some (1, O) := by
      unfold f_L_detailOf
      rw [e1, zca_l, if_pos rfl]
    have hcd : ¬ (1 : Int32) = 0 := by decide
    have hT : f_X8_thrown S' = some 1 := congrArg some e4
    rw [hL, zbs]
    simp only [e3, zbs, hT]
    rw [if_pos trivial, if_neg hcd]
    exact hk _ _ _ _ _ _ _ _ _ _ e5
  · have hL : f_L_detailOf U O x1 = some (0, vp_updL O (0 : Int32).toNatClampNeg q.toInt64) := by
      unfold f_L_detailOf
      rw [e1, zca_r]
      exact zix0 1 (by decide) _
    have hT : f_X8_thrown S' = some 0 := congrArg some e3
    rw [hL, zbs]
    simp only [e2, zbs, hT]
    rw [if_pos trivial, if_pos trivial, zix0 1 (by decide)]
    rw [uO, lgc, if_pos rfl]
    exact hk _ _ _ _ _ _ _ _ _ _ e4
theorem sp_30 {xs : Nat → Int32} {sL c : Nat} {i : Int32} {k : SS → SS → SS → SS → SS → SS → SL → SL → SS → SL → Option Int32} {B P M T K U : SS} {L O : SL} {S : SS} {V : SL} (hc : c < 512) (hz : in5 sL i) (H : Inv c B P M T K U L S V) (hk : okk c k) : f_law_30 xs sL i k B P M T K U L O S V = some 1 := by
  have z1 : ∀ {α : Type} (o : Option α), zix (i + 1) sL o = o := fun {α} o => (hz α o).1
  unfold f_law_30
  simp only [z1]
  generalize xs (i + 1).toNatClampNeg = x1
  rcases st_sumOf hc H x1 with ⟨q, S', e1, e3, e4, e5⟩ | ⟨q, S', e1, e2, e3, e4⟩
  · have hL : f_L_sumOf U L O x1 = some (1, O) := by
      unfold f_L_sumOf
      rw [e1, zca_l, if_pos rfl]
    have hcd : ¬ (1 : Int32) = 0 := by decide
    have hT : f_X8_thrown S' = some 1 := congrArg some e4
    rw [hL, zbs]
    simp only [e3, zbs, hT]
    rw [if_pos trivial, if_neg hcd]
    exact hk _ _ _ _ _ _ _ _ _ _ e5
  · have hL : f_L_sumOf U L O x1 = some (0, vp_updL O (0 : Int32).toNatClampNeg q) := by
      unfold f_L_sumOf
      rw [e1, zca_r]
      exact zix0 1 (by decide) _
    have hT : f_X8_thrown S' = some 0 := congrArg some e3
    rw [hL, zbs]
    simp only [e2, zbs, hT]
    rw [if_pos trivial, if_pos trivial, zix0 1 (by decide)]
    rw [uO, lgc, if_pos rfl]
    exact hk _ _ _ _ _ _ _ _ _ _ e4
theorem sp_13 {xs : Nat → Int32} {sL c : Nat} {i : Int32} {k : SS → SS → SS → SS → SS → SS → SL → SL → SS → SL → Option Int32} {B P M T K U : SS} {L O : SL} {S : SS} {V : SL} (hc : c < 512) (hz : in5 sL i) (H : Inv c B P M T K U L S V) (hk : okk c k) : f_law_13 xs sL i k B P M T K U L O S V = some 1 := by
  obtain ⟨q, S', e1, e2, e3⟩ := st_tokens hc H
  unfold f_law_13
  rw [e1, zbs, e2, zbs, if_pos rfl]
  exact hk _ _ _ _ _ _ _ _ _ _ e3
theorem sp_21 {xs : Nat → Int32} {sL c : Nat} {i : Int32} {k : SS → SS → SS → SS → SS → SS → SL → SL → SS → SL → Option Int32} {B P M T K U : SS} {L O : SL} {S : SS} {V : SL} (hc : c < 512) (hz : in5 sL i) (H : Inv c B P M T K U L S V) (hk : okk c k) : f_law_21 xs sL i k B P M T K U L O S V = some 1 := by
  obtain ⟨q, S', e1, e2, e3⟩ := st_credentials hc H
  unfold f_law_21
  rw [e1, zbs, e2, zbs, if_pos rfl]
  exact hk _ _ _ _ _ _ _ _ _ _ e3
theorem sp_24 {xs : Nat → Int32} {sL c : Nat} {i : Int32} {k : SS → SS → SS → SS → SS → SS → SL → SL → SS → SL → Option Int32} {B P M T K U : SS} {L O : SL} {S : SS} {V : SL} (hc : c < 512) (hz : in5 sL i) (H : Inv c B P M T K U L S V) (hk : okk c k) : f_law_24 xs sL i k B P M T K U L O S V = some 1 := by
  obtain ⟨q, S', e1, e2, e3⟩ := st_time H
  unfold f_law_24
  rw [e1, zbs, e2, zbs, if_pos rfl]
  exact hk _ _ _ _ _ _ _ _ _ _ e3
theorem sp_25 {xs : Nat → Int32} {sL c : Nat} {i : Int32} {k : SS → SS → SS → SS → SS → SS → SL → SL → SS → SL → Option Int32} {B P M T K U : SS} {L O : SL} {S : SS} {V : SL} (hc : c < 512) (hz : in5 sL i) (H : Inv c B P M T K U L S V) (hk : okk c k) : f_law_25 xs sL i k B P M T K U L O S V = some 1 := by
  obtain ⟨q, S', e1, e2, e3⟩ := st_nextEnd hc H
  unfold f_law_25
  rw [e1, zbs, e2, zbs, if_pos rfl]
  exact hk _ _ _ _ _ _ _ _ _ _ e3
theorem sp_26 {xs : Nat → Int32} {sL c : Nat} {i : Int32} {k : SS → SS → SS → SS → SS → SS → SL → SL → SS → SL → Option Int32} {B P M T K U : SS} {L O : SL} {S : SS} {V : SL} (hc : c < 512) (hz : in5 sL i) (H : Inv c B P M T K U L S V) (hk : okk c k) : f_law_26 xs sL i k B P M T K U L O S V = some 1 := by
  obtain ⟨q, S', e1, e2, e3⟩ := st_entries H
  unfold f_law_26
  rw [e1, zbs, e2, zbs, if_pos rfl]
  exact hk _ _ _ _ _ _ _ _ _ _ e3
theorem al_L0 {c : Nat} {B P M T K U : SS} {L : SL} {S : SS} {V : SL} (H : Inv c B P M T K U L S V) (O : SL) (x1 x2 x4 : Int32) :
    ∃ cd q P' O' S', f_L_allow P O x1 x2 0 x4 = some (cd, P', O') ∧ f_X8_allow S x1 x2 0 x4 = some (q, S') ∧ f_X8_thrown S' = some cd ∧ (cd = 0 → O' (0 : Int32).toNatClampNeg = q.toInt64) ∧ Inv (c + 1) B P' M T K U L S' V := by
  rcases st_allow H x1 x2 0 x4 (Or.inl rfl) with ⟨E, cd, q, S', e1, e2, e3, e4, e5⟩ | ⟨q, P', S', e1, e2, e3, e4⟩
  · have hL : f_L_allow P O x1 x2 0 x4 = some (cd, P, O) := by
      unfold f_L_allow
      rcases e2 with ⟨h1, h2⟩ | ⟨h1, h2⟩ | ⟨h1, h2⟩
      · rw [e1, h1, h2, zca_l, if_pos rfl]
      · rw [e1, h1, h2, zca_l, if_neg sne1, if_pos rfl]
      · rw [e1, h1, h2, zca_l, if_neg sne2, if_neg sne3, if_pos rfl]
    have hcd : ¬ cd = 0 := by
      rcases e2 with ⟨_, h2⟩ | ⟨_, h2⟩ | ⟨_, h2⟩
      · rw [h2]; decide
      · rw [h2]; decide
      · rw [h2]; decide
    exact ⟨cd, q, P, O, S', hL, e3, congrArg some e4, fun h => absurd h hcd, e5⟩
  · have hL : f_L_allow P O x1 x2 0 x4 = some (0, P', vp_updL O (0 : Int32).toNatClampNeg q.toInt64) := by
      unfold f_L_allow
      rw [e1, zca_r]
      exact zix0 1 (by decide) _
    exact ⟨0, q, P', _, S', hL, e2, congrArg some e3, fun _ => uO O _, e4⟩
theorem al_L1 {c : Nat} {B P M T K U : SS} {L : SL} {S : SS} {V : SL} (H : Inv c B P M T K U L S V) (O : SL) (x1 x2 x4 : Int32) :
    ∃ cd q P' O' S', f_L_allow P O x1 x2 1 x4 = some (cd, P', O') ∧ f_X8_allow S x1 x2 1 x4 = some (q, S') ∧ f_X8_thrown S' = some cd ∧ (cd = 0 → O' (0 : Int32).toNatClampNeg = q.toInt64) ∧ Inv (c + 1) B P' M T K U L S' V := by
  rcases st_allow H x1 x2 1 x4 (Or.inr rfl) with ⟨E, cd, q, S', e1, e2, e3, e4, e5⟩ | ⟨q, P', S', e1, e2, e3, e4⟩
  · have hL : f_L_allow P O x1 x2 1 x4 = some (cd, P, O) := by
      unfold f_L_allow
      rcases e2 with ⟨h1, h2⟩ | ⟨h1, h2⟩ | ⟨h1, h2⟩
      · rw [e1, h1, h2, zca_l, if_pos rfl]
      · rw [e1, h1, h2, zca_l, if_neg sne1, if_pos rfl]
      · rw [e1, h1, h2, zca_l, if_neg sne2, if_neg sne3, if_pos rfl]
    have hcd : ¬ cd = 0 := by
      rcases e2 with ⟨_, h2⟩ | ⟨_, h2⟩ | ⟨_, h2⟩
      · rw [h2]; decide
      · rw [h2]; decide
      · rw [h2]; decide
    exact ⟨cd, q, P, O, S', hL, e3, congrArg some e4, fun h => absurd h hcd, e5⟩
  · have hL : f_L_allow P O x1 x2 1 x4 = some (0, P', vp_updL O (0 : Int32).toNatClampNeg q.toInt64) := by
      unfold f_L_allow
      rw [e1, zca_r]
      exact zix0 1 (by decide) _
    exact ⟨0, q, P', _, S', hL, e2, congrArg some e3, fun _ => uO O _, e4⟩
theorem sp_1 {xs : Nat → Int32} {sL c : Nat} {i : Int32} {k : SS → SS → SS → SS → SS → SS → SL → SL → SS → SL → Option Int32} {B P M T K U : SS} {L O : SL} {S : SS} {V : SL} (hc : c < 512) (hz : in5 sL i) (H : Inv c B P M T K U L S V) (hk : okk c k) : f_law_1 xs sL i k B P M T K U L O S V = some 1 := by
  have z1 : ∀ {α : Type} (o : Option α), zix (i + 1) sL o = o := fun {α} o => (hz α o).1
  have z2 : ∀ {α : Type} (o : Option α), zix (i + 2) sL o = o := fun {α} o => (hz α o).2.1
  have z3 : ∀ {α : Type} (o : Option α), zix (i + 3) sL o = o := fun {α} o => (hz α o).2.2.1
  have z4 : ∀ {α : Type} (o : Option α), zix (i + 4) sL o = o := fun {α} o => (hz α o).2.2.2.1
  unfold f_law_1
  simp only [z1, z2, z3, z4]
  generalize xs (i + 1).toNatClampNeg = x1
  generalize xs (i + 2).toNatClampNeg = x2
  generalize xs (i + 3).toNatClampNeg = x3
  generalize xs (i + 4).toNatClampNeg = x4
  by_cases h : x3 = 0
  · obtain ⟨cd, q, P', O', S', e1, e2, e3, e4, e5⟩ := al_L0 H O x1 x2 x4
    rw [if_pos h, e1, zbs]
    simp only [if_pos h, e2, zbs, e3]
    rw [if_pos trivial]
    by_cases h0 : cd = 0
    · rw [if_pos h0, zix0 1 (by decide), e4 h0, lgc, if_pos rfl]
      exact hk _ _ _ _ _ _ _ _ _ _ e5
    · rw [if_neg h0]
      exact hk _ _ _ _ _ _ _ _ _ _ e5
  · obtain ⟨cd, q, P', O', S', e1, e2, e3, e4, e5⟩ := al_L1 H O x1 x2 x4
    rw [if_neg h, e1, zbs]
    simp only [if_neg h, e2, zbs, e3]
    rw [if_pos trivial]
    by_cases h0 : cd = 0
    · rw [if_pos h0, zix0 1 (by decide), e4 h0, lgc, if_pos rfl]
      exact hk _ _ _ _ _ _ _ _ _ _ e5
    · rw [if_neg h0]
      exact hk _ _ _ _ _ _ _ _ _ _ e5
theorem sp_sw {x : Int32} {xs : Nat → Int32} {sL c : Nat} {i : Int32} {k : SS → SS → SS → SS → SS → SS → SL → SL → SS → SL → Option Int32} {B P M T K U : SS} {L O : SL} {S : SS} {V : SL} (hc : c < 512) (hz : in5 sL i) (H : Inv c B P M T K U L S V) (hk : okk c k) : f_law_sw xs sL i x k B P M T K U L O S V = some 1 := by
  unfold f_law_sw
  by_cases h0 : x = 0
  · rw [if_pos h0]; exact sp_0 hc hz H hk
  rw [if_neg h0]
  by_cases h1 : x = 1
  · rw [if_pos h1]; exact sp_1 hc hz H hk
  rw [if_neg h1]
  by_cases h2 : x = 2
  · rw [if_pos h2]; exact sp_2 hc hz H hk
  rw [if_neg h2]
  by_cases h3 : x = 3
  · rw [if_pos h3]; exact sp_3 hc hz H hk
  rw [if_neg h3]
  by_cases h4 : x = 4
  · rw [if_pos h4]; exact sp_4 hc hz H hk
  rw [if_neg h4]
  by_cases h5 : x = 5
  · rw [if_pos h5]; exact sp_5 hc hz H hk
  rw [if_neg h5]
  by_cases h6 : x = 6
  · rw [if_pos h6]; exact sp_6 hc hz H hk
  rw [if_neg h6]
  by_cases h7 : x = 7
  · rw [if_pos h7]; exact sp_7 hc hz H hk
  rw [if_neg h7]
  by_cases h8 : x = 8
  · rw [if_pos h8]; exact sp_8 hc hz H hk
  rw [if_neg h8]
  by_cases h9 : x = 9
  · rw [if_pos h9]; exact sp_9 hc hz H hk
  rw [if_neg h9]
  by_cases h10 : x = 10
  · rw [if_pos h10]; exact sp_10 hc hz H hk
  rw [if_neg h10]
  by_cases h11 : x = 11
  · rw [if_pos h11]; exact sp_11 hc hz H hk
  rw [if_neg h11]
  by_cases h12 : x = 12
  · rw [if_pos h12]; exact sp_12 hc hz H hk
  rw [if_neg h12]
  by_cases h13 : x = 13
  · rw [if_pos h13]; exact sp_13 hc hz H hk
  rw [if_neg h13]
  by_cases h14 : x = 14
  · rw [if_pos h14]; exact sp_14 hc hz H hk
  rw [if_neg h14]
  by_cases h15 : x = 15
  · rw [if_pos h15]; exact sp_15 hc hz H hk
  rw [if_neg h15]
  by_cases h16 : x = 16
  · rw [if_pos h16]; exact sp_16 hc hz H hk
  rw [if_neg h16]
  by_cases h17 : x = 17
  · rw [if_pos h17]; exact sp_17 hc hz H hk
  rw [if_neg h17]
  by_cases h18 : x = 18
  · rw [if_pos h18]; exact sp_18 hc hz H hk
  rw [if_neg h18]
  by_cases h19 : x = 19
  · rw [if_pos h19]; exact sp_19 hc hz H hk
  rw [if_neg h19]
  by_cases h20 : x = 20
  · rw [if_pos h20]; exact sp_20 hc hz H hk
  rw [if_neg h20]
  by_cases h21 : x = 21
  · rw [if_pos h21]; exact sp_21 hc hz H hk
  rw [if_neg h21]
  by_cases h22 : x = 22
  · rw [if_pos h22]; exact sp_22 hc hz H hk
  rw [if_neg h22]
  by_cases h23 : x = 23
  · rw [if_pos h23]; exact sp_23 hc hz H hk
  rw [if_neg h23]
  by_cases h24 : x = 24
  · rw [if_pos h24]; exact sp_24 hc hz H hk
  rw [if_neg h24]
  by_cases h25 : x = 25
  · rw [if_pos h25]; exact sp_25 hc hz H hk
  rw [if_neg h25]
  by_cases h26 : x = 26
  · rw [if_pos h26]; exact sp_26 hc hz H hk
  rw [if_neg h26]
  by_cases h27 : x = 27
  · rw [if_pos h27]; exact sp_27 hc hz H hk
  rw [if_neg h27]
  by_cases h28 : x = 28
  · rw [if_pos h28]; exact sp_28 hc hz H hk
  rw [if_neg h28]
  by_cases h29 : x = 29
  · rw [if_pos h29]; exact sp_29 hc hz H hk
  rw [if_neg h29]
  by_cases h30 : x = 30
  · rw [if_pos h30]; exact sp_30 hc hz H hk
  rw [if_neg h30]
  exact hk _ _ _ _ _ _ _ _ _ _ (H.th eqr_rf)
theorem lp_all {xs : Nat → Int32} {sL : Nat} (hL : sL ≤ 3072) (f : Nat) : ∀ (n c : Nat) (B P M T K U : SS) (L O : SL) (S : SS) (V : SL), f < n → sL < 6 * c + 6 + 6 * f → 6 * c ≤ 4000 → Inv c B P M T K U L S V → f_law_lp xs sL n (nI (6 * c)) B P M T K U L O S V = some 1 := by
  have hend : ∀ c : Nat, 6 * c ≤ 4000 → ((Int32.ofNat sL - 6 < nI (6 * c)) ↔ sL < 6 * c + 6) := fun c h6 => by
    have h1 : (Int32.ofNat sL - 6).toInt = (sL : Int) - 6 := pk_sub_toInt (a := sL) (b := 6) (by omega) (by decide)
    rw [Int32.lt_iff_toInt_lt, h1, nI_toInt (show 6 * c < 2 ^ 31 by omega)]
    omega
  induction f with
  | zero =>
    intro n c B P M T K U L O S V hn hf h6 H
    obtain ⟨n, rfl⟩ := zn_s hn
    rw [f_law_lp, if_pos ((hend c h6).mpr (by omega))]
  | succ f ih =>
    intro n c B P M T K U L O S V hn hf h6 H
    obtain ⟨n, rfl⟩ := zn_s hn
    rw [f_law_lp]
    by_cases he : sL < 6 * c + 6
    · rw [if_pos ((hend c h6).mpr he)]
    · rw [if_neg (fun q => he ((hend c h6).mp q)), zix_nI (show 6 * c < sL by omega) (by omega)]
      refine sp_sw (c := c) (by omega) ?_ H (fun B' P' M' T' K' U' L' O' S' V' H' => ?_)
      · intro α o
        have hj : ∀ j : Nat, j < 6 → zix (nI (6 * c) + nI j) sL o = o := fun j hj => by
          rw [nI_add]
          exact zix_nI (by omega) (by omega) o
        exact ⟨hj 1 (by omega), hj 2 (by omega), hj 3 (by omega), hj 4 (by omega), hj 5 (by omega)⟩
      · rw [show nI (6 * c) + 6 = nI (6 * (c + 1)) from nI_add (6 * c) 6]
        exact ih n (c + 1) B' P' M' T' K' U' L' O' S' V' (by omega) (by omega) (by omega) H'
theorem cnt_z (f : Nat → Int32) (h : f 0 ≠ 0) : cnt f 1 = 1 := by
  show 0 + (if f 0 = 0 then 0 else 1) = 1
  rw [if_neg h]
theorem inv_0 : Inv 0 zP0 zP0 zP0 zT2 zP0 zP0 zL0 zS1 zL0 := by
  have s12 : zS1 12 0 ≠ 0 := by decide +kernel
  refine ⟨⟨rfl, rfl, ⟨rfl, rfl, rfl, rfl, rfl⟩, ⟨rfl, rfl, rfl, rfl⟩, ⟨?_, rfl, rfl, upd_same rfl, upd_same rfl, rfl, upd_same rfl, rfl⟩, ⟨rfl, rfl, rfl, rfl, rfl, rfl, rfl⟩, ⟨rfl, rfl, rfl, rfl⟩⟩, ⟨0, by omega, rfl⟩, ⟨0, by omega, rfl, fun p hp => ⟨0, by omega, rfl, fun j hj => absurd hj (Nat.not_lt_zero j)⟩⟩, ⟨0, by omega, rfl, fun j hj => absurd hj (Nat.not_lt_zero j)⟩, ⟨1, by omega, by omega, rfl, s12, ?_, ?_, ?_, ?_, ?_, fun t h1 h2 => absurd h1 (by omega)⟩, ⟨0, 1, by omega, rfl, by omega, rfl, rfl, by decide, fun j hj => absurd hj (Nat.not_lt_zero j)⟩, ⟨0, by omega, rfl⟩⟩
  · decide +kernel
  · decide +kernel
  · decide +kernel
  · decide +kernel
  · rw [cnt_z _ s12]; decide +kernel
  · rw [cnt_z _ s12]; decide
theorem lp_start (xs : Nat → Int32) {sL : Nat} (hL : sL ≤ 3072) (O : SL) : f_law_lp xs sL 600 0 zP0 zP0 zP0 zT2 zP0 zP0 zL0 O zS1 zL0 = some 1 :=
  lp_all hL 512 600 0 zP0 zP0 zP0 zT2 zP0 zP0 zL0 O zS1 zL0 (by decide) (by omega) (by omega) inv_0
