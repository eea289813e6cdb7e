theorem t_half {n : Nat} (hn : n < 2 ^ 31) : nI n / (2 : Int32) = nI (n / 2) := pk_div (d := 2) hn (by omega) (by omega)
theorem t_corners {n : Nat} : m_X5_corners (nI n) = some (nI (1 + n)) := by rw [m_X5_corners]; exact congrArg some (nI_add 1 n)
theorem t_calls {n : Nat} : m_X5_calls (nI n) = some (nI (1 + n)) := by rw [m_X5_calls]; exact congrArg some (nI_add 1 n)
theorem t_units {n : Nat} (hn : n < 2 ^ 31) : m_X5_units (nI n) = some (nI (1 + n / 2)) := by rw [m_X5_units, t_half hn]; exact congrArg some (nI_add 1 (n / 2))
theorem t_cfurther {s : Int32} {n : Nat} (hn : n ≤ 20) (K : Int32 → Int32 → (Nat → Int32) → (Nat → Int32) → (Nat → Int32) → (Nat → Int32) → (Nat → Int32) → Option t_R) : ∀ (d i fu : Nat), i + d = n / 2 → d < fu → ∀ hd th co se tr : Nat → Int32, tc_at s n (20 + i) hd th co se tr → ∃ hd' th' co' se' tr' : Nat → Int32, tc_at s n (20 + n / 2) hd' th' co' se' tr' ∧ m_X5_drawFurtherStreets_L2 s (nI n) K fu (nI i) (nI (t_cnt s n (20 + i))) hd th co se tr = K (nI (n / 2)) (nI (t_cnt s n (20 + n / 2))) hd' th' co' se' tr' := by
  intro d
  induction d with
  | zero =>
    intro i fu hi hf hd th co se tr h
    obtain ⟨f, rfl⟩ : ∃ f, fu = f + 1 := ⟨fu - 1, by omega⟩
    have e : i = n / 2 := by omega
    subst e
    exact ⟨hd, th, co, se, tr, h, by rw [m_X5_drawFurtherStreets_L2, t_half (by omega), if_pos (nI_le (Nat.le_refl _) (by omega))]⟩
  | succ d ih =>
    intro i fu hi hf hd th co se tr h
    obtain ⟨f, rfl⟩ : ∃ f, fu = f + 1 := ⟨fu - 1, by omega⟩
    have ha := t_dr_lt (s := s) (k := 2) (i := i) (m := 1 + n) (by omega)
    have hb := t_dr_lt (s := s) (k := 3) (i := i) (m := 1 + n) (by omega)
    have d2 : m_X5_drawn (2 : Int32) (nI i) (nI (1 + n)) s = some (nI (t_dr s 2 i (1 + n))) := t_drawn (k := 2) (by omega) (by omega)
    have d3 : m_X5_drawn (3 : Int32) (nI i) (nI (1 + n)) s = some (nI (t_dr s 3 i (1 + n))) := t_drawn (k := 3) (by omega) (by omega)
    have d1 : m_X5_drawn (1 : Int32) (nI (100 + i)) (99 : Int32) s = some (nI (t_dr s 1 (100 + i) 99)) := t_drawn (k := 1) (m := 99) (by omega) (by omega)
    have e5 : (100 : Int32) + nI i = nI (100 + i) := nI_add 100 i
    have e6 : (20 : Int32) + nI i = nI (20 + i) := nI_add 20 i
    have hh := t_hd2 (s := s) (n := n) (j := i) (by omega)
    have g1 : ¬ nI (n / 2) ≤ nI i := nI_ge (by omega) (by omega)
    by_cases c : t_dr s 2 i (1 + n) = t_dr s 3 i (1 + n)
    · have hz : t_hd s n (20 + i) = 0 := by rw [hh, if_neg (fun z => z.2 c)]
      obtain ⟨a1, a2, a3, a4, a5, h1, h2⟩ := ih (i + 1) f (by omega) (by omega) _ _ _ _ _ (tc_skip h hz)
      refine ⟨a1, a2, a3, a4, a5, h1, ?_⟩
      rw [show t_cnt s n (20 + (i + 1)) = t_cnt s n (20 + i) + t_hd s n (20 + i) from rfl, hz, Nat.add_zero] at h2
      rw [m_X5_drawFurtherStreets_L2, t_half (by omega), if_neg g1, t_corners, Option.bind_some, d2, Option.bind_some, Option.bind_some, d3, Option.bind_some, if_pos (by rw [c]), nI_1]
      exact h2
    · have hz : t_hd s n (20 + i) = 1 := by rw [hh, if_pos ⟨by omega, c⟩]
      have hp := tc_put h (by omega) hz
      have e1 : min (t_dr s 2 i (1 + n)) (t_dr s 3 i (1 + n)) = t_co s n (20 + i) := by rw [t_co, if_neg (by omega), if_pos (by omega), show 20 + i - 20 = i by omega]
      have e2 : max (t_dr s 2 i (1 + n)) (t_dr s 3 i (1 + n)) = t_se s n (20 + i) := by rw [t_se, if_neg (by omega), if_pos (by omega), show 20 + i - 20 = i by omega]
      have e3 : (1 : Int32) + nI (t_dr s 1 (100 + i) 99) = nI (t_tr s (20 + i)) := by rw [t_tr, if_neg (by omega), if_pos (by omega), show 20 + i - 20 = i by omega]; exact nI_add 1 _
      have e4 : nI (t_cnt s n (20 + i)) + 1 = nI (t_cnt s n (20 + (i + 1))) := by rw [nI_1, show t_cnt s n (20 + (i + 1)) = t_cnt s n (20 + i) + t_hd s n (20 + i) from rfl, hz]
      obtain ⟨a1, a2, a3, a4, a5, h1, h2⟩ := ih (i + 1) f (by omega) (by omega) _ _ _ _ _ hp
      refine ⟨a1, a2, a3, a4, a5, h1, ?_⟩
      rw [m_X5_drawFurtherStreets_L2, t_half (by omega), if_neg g1, t_corners, Option.bind_some, d2, Option.bind_some, Option.bind_some, d3, Option.bind_some, if_neg (fun z => c ((nI_eq (by omega) (by omega)).mp z)), e5, d1, Option.bind_some, e6, t_cstreet (by omega) (by omega) (by omega), Option.bind_some, e1, e2, e3, nI_1, e4]
      exact h2
theorem t_cunits {s : Int32} {n : Nat} (hn : n ≤ 20) (K : Int32 → Int32 → (Nat → Int32) → (Nat → Int32) → (Nat → Int32) → (Nat → Int32) → (Nat → Int32) → Option t_R) : ∀ (d i fu : Nat), i + d = 1 + n / 2 → d < fu → ∀ hd th co se tr : Nat → Int32, tc_at s n (30 + i) hd th co se tr → ∃ hd' th' co' se' tr' : Nat → Int32, tc_at s n (30 + (1 + n / 2)) hd' th' co' se' tr' ∧ m_X5_drawUnits_L2 s (nI n) K fu (nI i) (nI (t_cnt s n (30 + i))) hd th co se tr = K (nI (1 + n / 2)) (nI (t_cnt s n (30 + (1 + n / 2)))) hd' th' co' se' tr' := by
  intro d
  induction d with
  | zero =>
    intro i fu hi hf hd th co se tr h
    obtain ⟨f, rfl⟩ : ∃ f, fu = f + 1 := ⟨fu - 1, by omega⟩
    have e : i = 1 + n / 2 := by omega
    subst e
    exact ⟨hd, th, co, se, tr, h, by rw [m_X5_drawUnits_L2, t_units (by omega), Option.bind_some, if_pos (nI_le (Nat.le_refl _) (by omega))]⟩
  | succ d ih =>
    intro i fu hi hf hd th co se tr h
    obtain ⟨f, rfl⟩ : ∃ f, fu = f + 1 := ⟨fu - 1, by omega⟩
    have d4 : m_X5_drawn (4 : Int32) (nI i) (nI (1 + n)) s = some (nI (t_dr s 4 i (1 + n))) := t_drawn (k := 4) (by omega) (by omega)
    have d5 : m_X5_drawn (5 : Int32) (nI i) (7 : Int32) s = some (nI (t_dr s 5 i 7)) := t_drawn (k := 5) (m := 7) (by omega) (by omega)
    have e6 : (30 : Int32) + nI i = nI (30 + i) := nI_add 30 i
    have g1 : ¬ nI (1 + n / 2) ≤ nI i := nI_ge (by omega) (by omega)
    have hz : t_hd s n (30 + i) = 1 := by rw [t_hd3 (by omega), if_pos (by omega)]
    have hp := tc_put h (by omega) hz
    have e1 : t_dr s 4 i (1 + n) = t_co s n (30 + i) := by rw [t_co, if_neg (by omega), if_neg (by omega), if_pos (by omega), show 30 + i - 30 = i by omega]
    have e2 : (1 : Int32) + nI (t_dr s 5 i 7) = nI (t_se s n (30 + i)) := by rw [t_se, if_neg (by omega), if_neg (by omega), if_pos (by omega), show 30 + i - 30 = i by omega]; exact nI_add 1 _
    have e3 : (0 : Int32) = nI (t_tr s (30 + i)) := by rw [t_tr, if_neg (by omega), if_neg (by omega), if_pos (by omega)]; rfl
    have e4 : nI (t_cnt s n (30 + i)) + 1 = nI (t_cnt s n (30 + (i + 1))) := by rw [nI_1, show t_cnt s n (30 + (i + 1)) = t_cnt s n (30 + i) + t_hd s n (30 + i) from rfl, hz]
    obtain ⟨a1, a2, a3, a4, a5, h1, h2⟩ := ih (i + 1) f (by omega) (by omega) _ _ _ _ _ hp
    refine ⟨a1, a2, a3, a4, a5, h1, ?_⟩
    rw [m_X5_drawUnits_L2, t_units (by omega), Option.bind_some, if_neg g1, t_corners, Option.bind_some, d4, Option.bind_some, d5, Option.bind_some, e6, t_cputs (by omega), Option.bind_some, e1, e2, e3, nI_1, e4]
    exact h2
