theorem tm_min {s : Int32} {n j : Nat} {kd th fi ot la : Nat → Int32} (h : tm_at s n (41 + (j + 1)) kd th fi ot la) (hj : j < 1 + n) (hn : n ≤ 20) : la (41 + j) = nI (t_min s j) := by
  obtain ⟨_, _, _, _, h5⟩ := h (41 + j) (by omega)
  have hz : t_hd s n (41 + j) = 1 := by rw [t_hd4, if_pos hj]
  have e : t_z s n (t_tr s) (41 + j) = t_min s j := by
    rw [t_z, hz, if_neg (by omega), t_tr, if_neg (by omega), if_neg (by omega), if_neg (by omega), show 41 + j - 41 = j by omega]
  rw [h5, if_pos (by omega), e]
theorem tm_calls {s : Int32} {n : Nat} (hn : n ≤ 20) (K : t_KM) : ∀ (d i fu : Nat), i + d = 1 + n → d < fu → ∀ kd th fi ot la : Nat → Int32, tm_at s n (41 + i) kd th fi ot la → ∃ kd' th' fi' ot' la' : Nat → Int32, tm_at s n (41 + (1 + n)) kd' th' fi' ot' la' ∧ m_X7_make_L241 s (nI n) K fu (nI i) kd th fi ot la = K (nI (1 + n)) kd' th' fi' ot' la' := by
  intro d
  induction d with
  | zero =>
    intro i fu hi hf kd th fi ot la h
    obtain ⟨f, rfl⟩ : ∃ f, fu = f + 1 := ⟨fu - 1, by omega⟩
    have e : i = 1 + n := by omega
    subst e
    have e7 : (1 : Int32) + nI n = nI (1 + n) := nI_add 1 n
    exact ⟨kd, th, fi, ot, la, h, by rw [m_X7_make_L241, e7, if_pos (nI_le (Nat.le_refl _) (by omega))]⟩
  | succ d ih =>
    intro i fu hi hf kd th fi ot la h
    obtain ⟨f, rfl⟩ : ∃ f, fu = f + 1 := ⟨fu - 1, by omega⟩
    have e7 : (1 : Int32) + nI n = nI (1 + n) := nI_add 1 n
    have d6 : m_X7_number (6 : Int32) (nI i) (nI (1 + n)) s = some (nI (t_dr s 6 i (1 + n))) := t_number (k := 6) (by omega) (by omega)
    have d7 : m_X7_number (7 : Int32) (nI i) (3 : Int32) s = some (nI (t_dr s 7 i 3)) := t_number (k := 7) (m := 3) (by omega) (by omega)
    have d8 : m_X7_number (8 : Int32) (nI i) (3 : Int32) s = some (nI (t_dr s 8 i 3)) := t_number (k := 8) (m := 3) (by omega) (by omega)
    have d9 : m_X7_number (9 : Int32) (nI i) (1440 : Int32) s = some (nI (t_dr s 9 i 1440)) := t_number (k := 9) (m := 1440) (by omega) (by omega)
    have e6 : (41 : Int32) + nI i = nI (41 + i) := nI_add 41 i
    have g1 : ¬ nI (1 + n) ≤ nI i := nI_ge (by omega) (by omega)
    have hz : t_hd s n (41 + i) = 1 := by rw [t_hd4, if_pos (by omega)]
    have hp := tm_put h (by omega) hz
    have e0 : (2 : Int32) = nI (t_kd (41 + i)) := by rw [t_kd, if_neg (by omega), if_neg (by omega)]; rfl
    have e1 : t_dr s 6 i (1 + n) = t_co s n (41 + i) := by rw [t_co, if_neg (by omega), if_neg (by omega), if_neg (by omega), show 41 + i - 41 = i by omega]
    have e2 : t_dr s 7 i 3 = t_se s n (41 + i) := by rw [t_se, if_neg (by omega), if_neg (by omega), if_neg (by omega), show 41 + i - 41 = i by omega]
    have e3 : t_tr s (41 + i) = t_min s i := by rw [t_tr, if_neg (by omega), if_neg (by omega), if_neg (by omega), show 41 + i - 41 = i by omega]
    obtain ⟨a1, a2, a3, a4, a5, h1, h2⟩ := ih (i + 1) f (by omega) (by omega) _ _ _ _ _ hp
    refine ⟨a1, a2, a3, a4, a5, h1, ?_⟩
    rw [← h2, e3, ← e0, ← e1, ← e2]
    have go : ∀ x : Int32, x = nI (t_min s i) → ((m_X7_number (6 : Int32) (nI i) (nI (1 + n)) s).bind fun q2 => (m_X7_number (7 : Int32) (nI i) (3 : Int32) s).bind fun q3 => (m_X7_set (nI (41 + i)) (2 : Int32) q2 q3 x kd th fi ot la).bind fun q4 => m_X7_make_L241 s (nI n) K f (nI i + (1 : Int32)) q4.1 q4.2.1 q4.2.2.1 q4.2.2.2.1 q4.2.2.2.2) = m_X7_make_L241 s (nI n) K f (nI (i + 1)) (upd kd (41 + i) 2) (upd th (41 + i) 1) (upd fi (41 + i) (nI (t_dr s 6 i (1 + n)))) (upd ot (41 + i) (nI (t_dr s 7 i 3))) (upd la (41 + i) (nI (t_min s i))) := by
      intro x hx
      rw [d6, Option.bind_some, d7, Option.bind_some, tm_set (by omega), Option.bind_some, nI_1, hx]
    rw [m_X7_make_L241, e7, if_neg g1, e6]
    rw [mt_j]
    rw [mt_j]
    by_cases c0 : i = 0
    · subst c0
      have g3 : nI 0 ≤ 0 := nI_le (a := 0) (b := 0) (Nat.le_refl _) (by omega)
      rw [if_pos g3]
      dsimp only
      rw [mt_j, if_pos rfl, d9, Option.bind_some]
      exact go _ (by rw [t_min_0])
    · have g2 : ¬ nI i ≤ 0 := nI_nle (by omega) (by omega)
      obtain ⟨j, rfl⟩ : ∃ j, i = j + 1 := ⟨i - 1, by omega⟩
      rw [if_neg g2, d8, Option.bind_some]
      by_cases c8 : t_dr s 8 (j + 1) 3 = 0
      · have g4 : nI (t_dr s 8 (j + 1) 3) = 0 := by rw [c8]; exact nI_0
        have g5 : ¬ (1 : Int32) = 0 := by decide
        have e9 : nI (41 + (j + 1)) - (1 : Int32) = nI (41 + j) := nI_pred (41 + j)
        have hi := t_in (e := 41 + j) (N := 62) (by omega) (by omega)
        rw [if_pos g4]
        dsimp only
        rw [mt_j, if_neg g5, e9, if_pos hi, nI_clamp (by omega), tm_min h (by omega) hn]
        exact go _ (by rw [t_min_y c8])
      · have l8 : t_dr s 8 (j + 1) 3 < 3 := t_dr_lt (s := s) (k := 8) (i := j + 1) (m := 3) (by omega)
        have g4 : ¬ nI (t_dr s 8 (j + 1) 3) = 0 := fun z => c8 ((nI_eq (b := 0) (by omega) (by omega)).mp z)
        rw [if_neg g4]
        dsimp only
        rw [mt_j, if_pos rfl, d9, Option.bind_some]
        exact go _ (by rw [t_min_n c8])
/-- make: the rows are the town's -/
theorem tm_make {s : Int32} {n fu : Nat} (hn : n ≤ 20) (hf : 63 ≤ fu) (kd th fi ot la : Nat → Int32) : ∃ kd' th' fi' ot' la' : Nat → Int32, tm_at s n 62 kd' th' fi' ot' la' ∧ m_X7_make fu s (nI n) kd th fi ot la = some (nI (1 + n), nI (1 + n / 2), nI (1 + n), s, kd', th', fi', ot', la') := by
  have e7 : (1 : Int32) + nI n = nI (1 + n) := nI_add 1 n
  have e8 : (1 : Int32) + nI (n / 2) = nI (1 + n / 2) := nI_add 1 (n / 2)
  rw [m_X7_make, t_half (by omega), e7, e8]
  rw [mt_j]
  obtain ⟨b1, b2, b3, b4, b5, hb, hb2⟩ := tm_forget _ 62 0 fu (by omega) (by omega) kd th fi ot la (fun p hp => by omega)
  rw [show (0 : Int32) = nI 0 from rfl, hb2]
  try dsimp only
  rw [mt_j]
  have h0 : tm_at s n 0 b1 b2 b3 b4 b5 := fun p hp => by
    obtain ⟨q1, q2, q3, q4, q5⟩ := hb p hp
    rw [if_neg (fun z => Nat.not_lt_zero _ z.1)]
    simp only [Nat.not_lt_zero, if_false]
    exact ⟨q1, q2, q3, q4, q5⟩
  obtain ⟨c1, c2, c3, c4, c5, hc, hc2⟩ := tm_streets (s := s) hn _ n 0 fu (by omega) (by omega) _ _ _ _ _ h0
  rw [show (1 : Int32) = nI (0 + 1) from rfl, hc2]
  try dsimp only
  rw [mt_j]
  have hk := tm_skips (20 - n) n hc (fun x a b => t_hd0 (by omega) a)
  rw [show n + (20 - n) = 20 by omega] at hk
  obtain ⟨d1, d2, d3, d4, d5, hd0, hd2⟩ := tm_further (s := s) hn _ (n / 2) 0 fu (by omega) (by omega) _ _ _ _ _ hk
  rw [hd2]
  try dsimp only
  rw [mt_j]
  have hl := tm_skips (10 - n / 2) (20 + n / 2) hd0 (fun x a b => by
    obtain ⟨j, rfl⟩ : ∃ j, x = 20 + j := ⟨x - 20, by omega⟩
    rw [t_hd2 (by omega), if_neg (by omega)])
  rw [show 20 + n / 2 + (10 - n / 2) = 30 by omega] at hl
  obtain ⟨e1, e2, e3, e4, e5, he, he2⟩ := tm_units (s := s) hn _ (1 + n / 2) 0 fu (by omega) (by omega) _ _ _ _ _ hl
  rw [he2]
  try dsimp only
  rw [mt_j]
  have hm := tm_skips (10 - n / 2) (30 + (1 + n / 2)) he (fun x a b => by
    obtain ⟨j, rfl⟩ : ∃ j, x = 30 + j := ⟨x - 30, by omega⟩
    rw [t_hd3 (by omega), if_neg (by omega)])
  rw [show 30 + (1 + n / 2) + (10 - n / 2) = 41 by omega] at hm
  obtain ⟨f1, f2, f3, f4, f5, hf0, hf2⟩ := tm_calls (s := s) hn _ (1 + n) 0 fu (by omega) (by omega) _ _ _ _ _ hm
  rw [hf2]
  have hp := tm_skips (20 - n) (41 + (1 + n)) hf0 (fun x a b => by
    obtain ⟨j, rfl⟩ : ∃ j, x = 41 + j := ⟨x - 41, by omega⟩
    rw [t_hd4, if_neg (by omega)])
  rw [show 41 + (1 + n) + (20 - n) = 62 by omega] at hp
  exact ⟨f1, f2, f3, f4, f5, hp, rfl⟩
