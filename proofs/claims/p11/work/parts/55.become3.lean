def t_was (s : Int32) : Nat → Int32
  | 0 => 0
  | c + 1 => nI (t_min s c)
theorem t_was_s (s : Int32) (c : Nat) : t_was s (c + 1) = nI (t_min s c) := by rw [t_was]
theorem t_min_0 (s : Int32) : t_min s 0 = t_dr s 9 0 1440 := by rw [t_min]
theorem t_min_y {s : Int32} {j : Nat} (h : t_dr s 8 (j + 1) 3 = 0) : t_min s (j + 1) = t_min s j := by rw [t_min, if_pos h]
theorem t_min_n {s : Int32} {j : Nat} (h : ¬ t_dr s 8 (j + 1) 3 = 0) : t_min s (j + 1) = t_dr s 9 (j + 1) 1440 := by rw [t_min, if_neg h]
theorem t_ccalls {s : Int32} {n : Nat} (hn : n ≤ 20) (K : Int32 → Int32 → Int32 → (Nat → Int32) → (Nat → Int32) → (Nat → Int32) → (Nat → Int32) → (Nat → Int32) → Option t_R) : ∀ (d i fu : Nat), i + d = 1 + n → d < fu → ∀ hd th co se tr : Nat → Int32, tc_at s n (41 + i) hd th co se tr → ∃ hd' th' co' se' tr' : Nat → Int32, tc_at s n (41 + (1 + n)) hd' th' co' se' tr' ∧ m_X5_drawCalls_L4 s (nI n) K fu (t_was s i) (nI i) (nI (t_cnt s n (41 + i))) hd th co se tr = K (t_was s (1 + n)) (nI (1 + n)) (nI (t_cnt s n (41 + (1 + n)))) hd' th' co' se' tr' := by
  intro d
  induction d with
  | zero =>
    intro i fu hi hf hd th co se tr h
    obtain ⟨f, rfl⟩ : ∃ f, fu = f + 1 := ⟨fu - 1, by omega⟩
    have e : i = 1 + n := by omega
    subst e
    exact ⟨hd, th, co, se, tr, h, by rw [m_X5_drawCalls_L4, t_calls, Option.bind_some, if_pos (nI_le (Nat.le_refl _) (by omega))]⟩
  | succ d ih =>
    intro i fu hi hf hd th co se tr h
    obtain ⟨f, rfl⟩ : ∃ f, fu = f + 1 := ⟨fu - 1, by omega⟩
    have d6 : m_X5_drawn (6 : Int32) (nI i) (nI (1 + n)) s = some (nI (t_dr s 6 i (1 + n))) := t_drawn (k := 6) (by omega) (by omega)
    have d7 : m_X5_drawn (7 : Int32) (nI i) (3 : Int32) s = some (nI (t_dr s 7 i 3)) := t_drawn (k := 7) (m := 3) (by omega) (by omega)
    have d8 : m_X5_drawn (8 : Int32) (nI i) (3 : Int32) s = some (nI (t_dr s 8 i 3)) := t_drawn (k := 8) (m := 3) (by omega) (by omega)
    have d9 : m_X5_drawn (9 : Int32) (nI i) (1440 : Int32) s = some (nI (t_dr s 9 i 1440)) := t_drawn (k := 9) (m := 1440) (by omega) (by omega)
    have e6 : (41 : Int32) + nI i = nI (41 + i) := nI_add 41 i
    have g1 : ¬ nI (1 + n) ≤ nI i := nI_ge (by omega) (by omega)
    have hz : t_hd s n (41 + i) = 1 := by rw [t_hd4, if_pos (by omega)]
    have hp := tc_put h (by omega) hz
    have e1 : t_dr s 6 i (1 + n) = t_co s n (41 + i) := by rw [t_co, if_neg (by omega), if_neg (by omega), if_neg (by omega), show 41 + i - 41 = i by omega]
    have e2 : t_dr s 7 i 3 = t_se s n (41 + i) := by rw [t_se, if_neg (by omega), if_neg (by omega), if_neg (by omega), show 41 + i - 41 = i by omega]
    have e3 : t_tr s (41 + i) = t_min s i := by rw [t_tr, if_neg (by omega), if_neg (by omega), if_neg (by omega), show 41 + i - 41 = i by omega]
    have e4 : nI (t_cnt s n (41 + i)) + 1 = nI (t_cnt s n (41 + (i + 1))) := by rw [nI_1, show t_cnt s n (41 + (i + 1)) = t_cnt s n (41 + i) + t_hd s n (41 + i) from rfl, hz]
    obtain ⟨a1, a2, a3, a4, a5, h1, h2⟩ := ih (i + 1) f (by omega) (by omega) _ _ _ _ _ hp
    refine ⟨a1, a2, a3, a4, a5, h1, ?_⟩
    rw [← h2]
    have go : ∀ x : Int32, x = nI (t_min s i) → ((m_X5_corners (nI n)).bind fun q3 => (m_X5_drawn (6 : Int32) (nI i) q3 s).bind fun q4 => (m_X5_drawn (7 : Int32) (nI i) (3 : Int32) s).bind fun q5 => (m_X5_put ((41 : Int32) + nI i) q4 q5 x (nI (t_cnt s n (41 + i))) hd th co se tr).bind fun q6 => m_X5_drawCalls_L4 s (nI n) K f x (nI i + (1 : Int32)) q6.1 q6.2.1 q6.2.2.1 q6.2.2.2.1 q6.2.2.2.2.1 q6.2.2.2.2.2) = m_X5_drawCalls_L4 s (nI n) K f (t_was s (i + 1)) (nI (i + 1)) (nI (t_cnt s n (41 + (i + 1)))) (upd hd (41 + i) 1) (upd th (41 + i) 1) (upd co (41 + i) (nI (t_co s n (41 + i)))) (upd se (41 + i) (nI (t_se s n (41 + i)))) (upd tr (41 + i) (nI (t_tr s (41 + i)))) := by
      intro x hx
      rw [t_corners, Option.bind_some, d6, Option.bind_some, d7, Option.bind_some, e6, t_cputs (by omega), Option.bind_some, nI_1, e3, ← e1, ← e2, hx, e4, t_was_s]
    rw [m_X5_drawCalls_L4, t_calls, Option.bind_some, if_neg g1]
    rw [mt_j]
    rw [mt_j]
    by_cases c0 : i = 0
    · subst c0
      have g3 : nI 0 ≤ 0 := nI_le (a := 0) (b := 0) (Nat.le_refl _) (by omega)
      rw [if_pos g3]
      dsimp only
      rw [mt_j, if_pos rfl, d9, Option.bind_some]
      exact go _ (by rw [t_min_0])
    · have g2 : ¬ nI i ≤ 0 := nI_nle (by omega) (by omega)
      obtain ⟨j, rfl⟩ : ∃ j, i = j + 1 := ⟨i - 1, by omega⟩
      rw [if_neg g2, d8, Option.bind_some]
      by_cases c8 : t_dr s 8 (j + 1) 3 = 0
      · have g4 : nI (t_dr s 8 (j + 1) 3) = 0 := by rw [c8]; exact nI_0
        have g5 : ¬ (1 : Int32) = 0 := by decide
        rw [if_pos g4]
        dsimp only
        rw [mt_j, if_neg g5]
        exact go _ (by rw [t_min_y c8, t_was_s])
      · have l8 : t_dr s 8 (j + 1) 3 < 3 := t_dr_lt (s := s) (k := 8) (i := j + 1) (m := 3) (by omega)
        have g4 : ¬ nI (t_dr s 8 (j + 1) 3) = 0 := fun z => c8 ((nI_eq (b := 0) (by omega) (by omega)).mp z)
        rw [if_neg g4]
        dsimp only
        rw [mt_j, if_pos rfl, d9, Option.bind_some]
        exact go _ (by rw [t_min_n c8])
/-- become: the rows are the town's -/
theorem t_become {s : Int32} {n fu : Nat} (hn : n ≤ 20) (hf : 63 ≤ fu) (hd th co se tr : Nat → Int32) : ∃ hd' th' co' se' tr' : Nat → Int32, tc_at s n 62 hd' th' co' se' tr' ∧ m_X5_become fu s (nI n) hd th co se tr = some (s, nI n, nI (t_cnt s n 62), hd', th', co', se', tr') := by
  obtain ⟨b1, b2, b3, b4, b5, hb, hb2⟩ := t_cforget (fun _ a b c d e => some ((0 : Int32), a, b, c, d, e)) 62 0 fu (by omega) (by omega) hd th co se tr (fun p hp => by omega)
  have h0 : tc_at s n 0 b1 b2 b3 b4 b5 := fun p hp => by
    obtain ⟨q1, q2, q3, q4, q5⟩ := hb p hp
    simp only [Nat.not_lt_zero, if_false]
    exact ⟨q1, q2, q3, q4, q5⟩
  have r0 : m_X5_forget fu hd th co se tr = some ((0 : Int32), b1, b2, b3, b4, b5) := by rw [m_X5_forget, mt_j]; exact hb2
  obtain ⟨c1, c2, c3, c4, c5, hc, hc2⟩ := t_cstreets (s := s) hn (fun _ x a b c d e => some (x, a, b, c, d, e)) n 0 fu (by omega) (by omega) _ _ _ _ _ h0
  have r1 : m_X5_drawStreets fu s (nI n) (0 : Int32) b1 b2 b3 b4 b5 = some (nI (t_cnt s n n), c1, c2, c3, c4, c5) := by rw [m_X5_drawStreets, mt_j]; exact hc2
  obtain ⟨hk, hk2⟩ := tc_skips (20 - n) n hc (fun x a b => t_hd0 (by omega) a)
  rw [show n + (20 - n) = 20 by omega] at hk hk2
  obtain ⟨d1, d2, d3, d4, d5, hd0, hd2⟩ := t_cfurther (s := s) hn (fun _ x a b c d e => some (x, a, b, c, d, e)) (n / 2) 0 fu (by omega) (by omega) _ _ _ _ _ hk
  have r2 : m_X5_drawFurtherStreets fu s (nI n) (nI (t_cnt s n n)) c1 c2 c3 c4 c5 = some (nI (t_cnt s n (20 + n / 2)), d1, d2, d3, d4, d5) := by rw [m_X5_drawFurtherStreets, mt_j, ← hk2]; exact hd2
  obtain ⟨hl, hl2⟩ := tc_skips (10 - n / 2) (20 + n / 2) hd0 (fun x a b => by
    obtain ⟨j, rfl⟩ : ∃ j, x = 20 + j := ⟨x - 20, by omega⟩
    rw [t_hd2 (by omega), if_neg (by omega)])
  rw [show 20 + n / 2 + (10 - n / 2) = 30 by omega] at hl hl2
  obtain ⟨e1, e2, e3, e4, e5, he, he2⟩ := t_cunits (s := s) hn (fun _ x a b c d e => some (x, a, b, c, d, e)) (1 + n / 2) 0 fu (by omega) (by omega) _ _ _ _ _ hl
  have r3 : m_X5_drawUnits fu s (nI n) (nI (t_cnt s n (20 + n / 2))) d1 d2 d3 d4 d5 = some (nI (t_cnt s n (30 + (1 + n / 2))), e1, e2, e3, e4, e5) := by rw [m_X5_drawUnits, mt_j, ← hl2]; exact he2
  obtain ⟨hm, hm2⟩ := tc_skips (10 - n / 2) (30 + (1 + n / 2)) he (fun x a b => by
    obtain ⟨j, rfl⟩ : ∃ j, x = 30 + j := ⟨x - 30, by omega⟩
    rw [t_hd3 (by omega), if_neg (by omega)])
  rw [show 30 + (1 + n / 2) + (10 - n / 2) = 41 by omega] at hm hm2
  obtain ⟨f1, f2, f3, f4, f5, hf0, hf2⟩ := t_ccalls (s := s) hn (fun _ _ x a b c d e => some (x, a, b, c, d, e)) (1 + n) 0 fu (by omega) (by omega) _ _ _ _ _ hm
  have r4 : m_X5_drawCalls fu s (nI n) (nI (t_cnt s n (30 + (1 + n / 2)))) e1 e2 e3 e4 e5 = some (nI (t_cnt s n (41 + (1 + n))), f1, f2, f3, f4, f5) := by rw [m_X5_drawCalls, mt_j, ← hm2]; exact hf2
  obtain ⟨hp, hp2⟩ := tc_skips (20 - n) (41 + (1 + n)) hf0 (fun x a b => by
    obtain ⟨j, rfl⟩ : ∃ j, x = 41 + j := ⟨x - 41, by omega⟩
    rw [t_hd4, if_neg (by omega)])
  rw [show 41 + (1 + n) + (20 - n) = 62 by omega] at hp hp2
  refine ⟨f1, f2, f3, f4, f5, hp, ?_⟩
  rw [m_X5_become, r0, Option.bind_some, r1, Option.bind_some, r2, Option.bind_some, r3, Option.bind_some, r4, Option.bind_some, hp2]
