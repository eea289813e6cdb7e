/-! The reference draws the town: the same frontier. -/
def t_kd (p : Nat) : Nat := if p < 30 then 0 else if p < 41 then 1 else 2
def tm_at (s : Int32) (n e : Nat) (kd th fi ot la : Nat → Int32) : Prop := ∀ p, p < 62 → kd p = (if p < e ∧ t_hd s n p = 1 then nI (t_kd p) else (-1)) ∧ th p = nI (if p < e then t_hd s n p else 0) ∧ fi p = nI (if p < e then t_z s n (t_co s n) p else 0) ∧ ot p = nI (if p < e then t_z s n (t_se s n) p else 0) ∧ la p = nI (if p < e then t_z s n (t_tr s) p else 0)
theorem tm_skip {s : Int32} {n e : Nat} {kd th fi ot la : Nat → Int32} (h : tm_at s n e kd th fi ot la) (hz : t_hd s n e = 0) : tm_at s n (e + 1) kd th fi ot la := by
  intro p hp
  obtain ⟨h1, h2, h3, h4, h5⟩ := h p hp
  by_cases c : p = e
  · subst c
    rw [if_neg (Nat.lt_irrefl _)] at h2 h3 h4 h5
    rw [if_neg (fun z => Nat.lt_irrefl _ z.1)] at h1
    have hz' : ∀ f, t_z s n f p = 0 := fun f => by simp [t_z, hz]
    rw [if_neg (fun z => by have := z.2; omega), if_pos (Nat.lt_succ_self _), if_pos (Nat.lt_succ_self _), if_pos (Nat.lt_succ_self _), if_pos (Nat.lt_succ_self _), hz, hz', hz', hz']
    exact ⟨h1, h2, h3, h4, h5⟩
  · have e1 : (p < e + 1) = (p < e) := by apply propext; omega
    simp only [e1]
    exact ⟨h1, h2, h3, h4, h5⟩
theorem tm_put {s : Int32} {n e : Nat} {kd th fi ot la : Nat → Int32} (h : tm_at s n e kd th fi ot la) (he : e < 62) (hz : t_hd s n e = 1) : tm_at s n (e + 1) (upd kd e (nI (t_kd e))) (upd th e 1) (upd fi e (nI (t_co s n e))) (upd ot e (nI (t_se s n e))) (upd la e (nI (t_tr s e))) := by
  intro p hp
  obtain ⟨h1, h2, h3, h4, h5⟩ := h p hp
  by_cases c : p = e
  · subst c
    have hz' : ∀ f, t_z s n f p = f p := fun f => by simp [t_z, hz]
    rw [if_pos ⟨Nat.lt_succ_self _, hz⟩]
    simp only [pk_us, Nat.lt_succ_self, if_true, hz, hz']
    refine ⟨?_, ?_, ?_, ?_, ?_⟩ <;> first | rfl | trivial
  · have e1 : (p < e + 1) = (p < e) := by apply propext; omega
    simp only [pk_un c, e1]
    exact ⟨h1, h2, h3, h4, h5⟩
theorem tm_skips {s : Int32} {n : Nat} {kd th fi ot la : Nat → Int32} : ∀ (d e : Nat), tm_at s n e kd th fi ot la → (∀ x, e ≤ x → x < e + d → t_hd s n x = 0) → tm_at s n (e + d) kd th fi ot la := by
  intro d
  induction d with
  | zero => intro e h _; exact h
  | succ d ih =>
    intro e h hz
    exact tm_skip (ih e h (fun x a b => hz x a (by omega))) (hz (e + d) (by omega) (by omega))
theorem tm_set {e : Nat} {k a b c : Int32} {kd th fi ot la : Nat → Int32} (h : e < 62) : m_X7_set (nI e) k a b c kd th fi ot la = some (upd kd e k, upd th e 1, upd fi e a, upd ot e b, upd la e c) := by
  have hi := t_in h (by omega)
  rw [m_X7_set, if_pos hi, if_pos hi, if_pos hi, if_pos hi, if_pos hi, nI_clamp (by omega), t_one]
abbrev t_RM : Type := Int32 × Int32 × Int32 × Int32 × (Nat → Int32) × (Nat → Int32) × (Nat → Int32) × (Nat → Int32) × (Nat → Int32)
abbrev t_KM : Type := Int32 → (Nat → Int32) → (Nat → Int32) → (Nat → Int32) → (Nat → Int32) → (Nat → Int32) → Option t_RM
theorem tm_forget (K : t_KM) : ∀ (d i fu : Nat), i + d = 62 → d < fu → ∀ kd th fi ot la : Nat → Int32, (∀ p, p < i → kd p = (-1) ∧ th p = 0 ∧ fi p = 0 ∧ ot p = 0 ∧ la p = 0) → ∃ kd' th' fi' ot' la' : Nat → Int32, (∀ p, p < 62 → kd' p = (-1) ∧ th' p = 0 ∧ fi' p = 0 ∧ ot' p = 0 ∧ la' p = 0) ∧ m_X7_make_L30 K fu (nI i) kd th fi ot la = K (nI 62) kd' th' fi' ot' la' := by
  intro d
  induction d with
  | zero =>
    intro i fu hi hf kd th fi ot la h
    obtain ⟨f, rfl⟩ : ∃ f, fu = f + 1 := ⟨fu - 1, by omega⟩
    have e : i = 62 := by omega
    subst e
    exact ⟨kd, th, fi, ot, la, h, by rw [m_X7_make_L30, if_pos (by decide)]⟩
  | succ d ih =>
    intro i fu hi hf kd th fi ot la h
    obtain ⟨f, rfl⟩ : ∃ f, fu = f + 1 := ⟨fu - 1, by omega⟩
    have hn : ¬ (62 : Int32) ≤ nI i := fun z => by have := (nI_leI (a := 62) (b := i) (by omega) (by omega)).mp z; omega
    have hin := t_in (e := i) (N := 62) (by omega) (by omega)
    obtain ⟨a1, a2, a3, a4, a5, h1, h2⟩ := ih (i + 1) f (by omega) (by omega) (upd kd i (-1)) (upd (upd th i 1) i 0) (upd fi i 0) (upd ot i 0) (upd la i 0) (fun p hp => by
      by_cases c : p = i
      · subst c; simp only [pk_us]; exact ⟨trivial, trivial, trivial, trivial, trivial⟩
      · simp only [pk_un c]; exact h p (by omega))
    refine ⟨a1, a2, a3, a4, a5, h1, ?_⟩
    rw [m_X7_make_L30, if_neg hn, tm_set (by omega), Option.bind_some, if_pos hin, nI_clamp (by omega), t_zer, nI_1]
    exact h2
theorem tm_streets {s : Int32} {n : Nat} (hn : n ≤ 20) (K : t_KM) : ∀ (d i fu : Nat), i + d = n → d < fu → ∀ kd th fi ot la : Nat → Int32, tm_at s n i kd th fi ot la → ∃ kd' th' fi' ot' la' : Nat → Int32, tm_at s n n kd' th' fi' ot' la' ∧ m_X7_make_L60 s (nI n) K fu (nI (i + 1)) kd th fi ot la = K (nI (n + 1)) kd' th' fi' ot' la' := by
  intro d
  induction d with
  | zero =>
    intro i fu hi hf kd th fi ot la h
    obtain ⟨f, rfl⟩ : ∃ f, fu = f + 1 := ⟨fu - 1, by omega⟩
    have e : i = n := by omega
    subst e
    exact ⟨kd, th, fi, ot, la, h, by rw [m_X7_make_L60, if_pos (nI_lt (by omega) (by omega))]⟩
  | succ d ih =>
    intro i fu hi hf kd th fi ot la h
    obtain ⟨f, rfl⟩ : ∃ f, fu = f + 1 := ⟨fu - 1, by omega⟩
    have hz : t_hd s n i = 1 := t_hd1 (by omega) (by omega)
    have hp := tm_put h (by omega) hz
    have d1 : m_X7_number (0 : Int32) (nI (i + 1)) (nI (i + 1)) s = some (nI (t_dr s 0 (i + 1) (i + 1))) := t_number (k := 0) (by omega) (by omega)
    have d2 : m_X7_number (1 : Int32) (nI (i + 1)) (99 : Int32) s = some (nI (t_dr s 1 (i + 1) 99)) := t_number (k := 1) (m := 99) (by omega) (by omega)
    have e0 : (0 : Int32) = nI (t_kd i) := by rw [t_kd, if_pos (by omega)]; rfl
    have e1 : t_dr s 0 (i + 1) (i + 1) = t_co s n i := by rw [t_co, if_pos (by omega)]
    have e2 : i + 1 = t_se s n i := by rw [t_se, if_pos (by omega)]
    have e3 : (1 : Int32) + nI (t_dr s 1 (i + 1) 99) = nI (t_tr s i) := by rw [t_tr, if_pos (by omega)]; exact nI_add 1 _
    obtain ⟨a1, a2, a3, a4, a5, h1, h2⟩ := ih (i + 1) f (by omega) (by omega) _ _ _ _ _ hp
    refine ⟨a1, a2, a3, a4, a5, h1, ?_⟩
    rw [m_X7_make_L60, if_neg (nI_nlt (by omega) (by omega)), d1, Option.bind_some, d2, Option.bind_some, nI_pred, e3, tm_set (by omega), Option.bind_some, nI_1, e1]
    rw [← e2, ← e0] at h2
    exact h2
theorem tm_further {s : Int32} {n : Nat} (hn : n ≤ 20) (K : t_KM) : ∀ (d i fu : Nat), i + d = n / 2 → d < fu → ∀ kd th fi ot la : Nat → Int32, tm_at s n (20 + i) kd th fi ot la → ∃ kd' th' fi' ot' la' : Nat → Int32, tm_at s n (20 + n / 2) kd' th' fi' ot' la' ∧ m_X7_make_L99 s (nI n) K fu (nI i) kd th fi ot la = K (nI (n / 2)) kd' th' fi' ot' la' := by
  intro d
  induction d with
  | zero =>
    intro i fu hi hf kd th fi ot la h
    obtain ⟨f, rfl⟩ : ∃ f, fu = f + 1 := ⟨fu - 1, by omega⟩
    have e : i = n / 2 := by omega
    subst e
    exact ⟨kd, th, fi, ot, la, h, by rw [m_X7_make_L99, t_half (by omega), if_pos (nI_le (Nat.le_refl _) (by omega))]⟩
  | succ d ih =>
    intro i fu hi hf kd th fi ot la h
    obtain ⟨f, rfl⟩ : ∃ f, fu = f + 1 := ⟨fu - 1, by omega⟩
    have ha := t_dr_lt (s := s) (k := 2) (i := i) (m := 1 + n) (by omega)
    have hb := t_dr_lt (s := s) (k := 3) (i := i) (m := 1 + n) (by omega)
    have e7 : (1 : Int32) + nI n = nI (1 + n) := nI_add 1 n
    have d2 : m_X7_number (2 : Int32) (nI i) (nI (1 + n)) s = some (nI (t_dr s 2 i (1 + n))) := t_number (k := 2) (by omega) (by omega)
    have d3 : m_X7_number (3 : Int32) (nI i) (nI (1 + n)) s = some (nI (t_dr s 3 i (1 + n))) := t_number (k := 3) (by omega) (by omega)
    have d1 : m_X7_number (1 : Int32) (nI (100 + i)) (99 : Int32) s = some (nI (t_dr s 1 (100 + i) 99)) := t_number (k := 1) (m := 99) (by omega) (by omega)
    have e5 : (100 : Int32) + nI i = nI (100 + i) := nI_add 100 i
    have e6 : (20 : Int32) + nI i = nI (20 + i) := nI_add 20 i
    have hh := t_hd2 (s := s) (n := n) (j := i) (by omega)
    have g1 : ¬ nI (n / 2) ≤ nI i := nI_ge (by omega) (by omega)
    by_cases c : t_dr s 2 i (1 + n) = t_dr s 3 i (1 + n)
    · have hz : t_hd s n (20 + i) = 0 := by rw [hh, if_neg (fun z => z.2 c)]
      obtain ⟨a1, a2, a3, a4, a5, h1, h2⟩ := ih (i + 1) f (by omega) (by omega) _ _ _ _ _ (tm_skip h hz)
      refine ⟨a1, a2, a3, a4, a5, h1, ?_⟩
      rw [m_X7_make_L99, t_half (by omega), if_neg g1, e7, d2, Option.bind_some, d3, Option.bind_some, if_pos (by rw [c]), nI_1]
      exact h2
    · have hz : t_hd s n (20 + i) = 1 := by rw [hh, if_pos ⟨by omega, c⟩]
      have hp := tm_put h (by omega) hz
      have e0 : (0 : Int32) = nI (t_kd (20 + i)) := by rw [t_kd, if_pos (by omega)]; rfl
      have e1 : t_co s n (20 + i) = min (t_dr s 2 i (1 + n)) (t_dr s 3 i (1 + n)) := by rw [t_co, if_neg (by omega), if_pos (by omega), show 20 + i - 20 = i by omega]
      have e2 : t_se s n (20 + i) = max (t_dr s 2 i (1 + n)) (t_dr s 3 i (1 + n)) := by rw [t_se, if_neg (by omega), if_pos (by omega), show 20 + i - 20 = i by omega]
      have e3 : (1 : Int32) + nI (t_dr s 1 (100 + i) 99) = nI (t_tr s (20 + i)) := by rw [t_tr, if_neg (by omega), if_pos (by omega), show 20 + i - 20 = i by omega]; exact nI_add 1 _
      obtain ⟨a1, a2, a3, a4, a5, h1, h2⟩ := ih (i + 1) f (by omega) (by omega) _ _ _ _ _ hp
      refine ⟨a1, a2, a3, a4, a5, h1, ?_⟩
      rw [← h2, e1, e2, ← e0]
      rw [m_X7_make_L99, t_half (by omega), if_neg g1, e7, d2, Option.bind_some, d3, Option.bind_some, if_neg (fun z => c ((nI_eq (by omega) (by omega)).mp z))]
      rw [mt_j]
      by_cases c2 : t_dr s 3 i (1 + n) ≤ t_dr s 2 i (1 + n)
      · have g3 : nI (t_dr s 3 i (1 + n)) ≤ nI (t_dr s 2 i (1 + n)) := nI_le c2 (by omega)
        rw [if_pos g3]
        dsimp only
        rw [mt_j, if_pos g3]
        dsimp only
        rw [e5, d1, Option.bind_some, e3, e6, tm_set (by omega), Option.bind_some, nI_1, Nat.min_eq_right c2, Nat.max_eq_left c2]
      · have g3 : ¬ nI (t_dr s 3 i (1 + n)) ≤ nI (t_dr s 2 i (1 + n)) := nI_ge (by omega) (by omega)
        rw [if_neg g3]
        dsimp only
        rw [mt_j, if_neg g3]
        dsimp only
        rw [e5, d1, Option.bind_some, e3, e6, tm_set (by omega), Option.bind_some, nI_1, Nat.min_eq_left (by omega), Nat.max_eq_right (by omega)]
theorem tm_units {s : Int32} {n : Nat} (hn : n ≤ 20) (K : t_KM) : ∀ (d i fu : Nat), i + d = 1 + n / 2 → d < fu → ∀ kd th fi ot la : Nat → Int32, tm_at s n (30 + i) kd th fi ot la → ∃ kd' th' fi' ot' la' : Nat → Int32, tm_at s n (30 + (1 + n / 2)) kd' th' fi' ot' la' ∧ m_X7_make_L195 s (nI n) K fu (nI i) kd th fi ot la = K (nI (1 + n / 2)) kd' th' fi' ot' la' := by
  intro d
  induction d with
  | zero =>
    intro i fu hi hf kd th fi ot la h
    obtain ⟨f, rfl⟩ : ∃ f, fu = f + 1 := ⟨fu - 1, by omega⟩
    have e : i = 1 + n / 2 := by omega
    subst e
    have e8 : (1 : Int32) + nI (n / 2) = nI (1 + n / 2) := nI_add 1 (n / 2)
    exact ⟨kd, th, fi, ot, la, h, by rw [m_X7_make_L195, t_half (by omega), e8, if_pos (nI_le (Nat.le_refl _) (by omega))]⟩
  | succ d ih =>
    intro i fu hi hf kd th fi ot la h
    obtain ⟨f, rfl⟩ : ∃ f, fu = f + 1 := ⟨fu - 1, by omega⟩
    have e7 : (1 : Int32) + nI n = nI (1 + n) := nI_add 1 n
    have e8 : (1 : Int32) + nI (n / 2) = nI (1 + n / 2) := nI_add 1 (n / 2)
    have d4 : m_X7_number (4 : Int32) (nI i) (nI (1 + n)) s = some (nI (t_dr s 4 i (1 + n))) := t_number (k := 4) (by omega) (by omega)
    have d5 : m_X7_number (5 : Int32) (nI i) (7 : Int32) s = some (nI (t_dr s 5 i 7)) := t_number (k := 5) (m := 7) (by omega) (by omega)
    have e6 : (30 : Int32) + nI i = nI (30 + i) := nI_add 30 i
    have g1 : ¬ nI (1 + n / 2) ≤ nI i := nI_ge (by omega) (by omega)
    have hz : t_hd s n (30 + i) = 1 := by rw [t_hd3 (by omega), if_pos (by omega)]
    have hp := tm_put h (by omega) hz
    have e0 : (1 : Int32) = nI (t_kd (30 + i)) := by rw [t_kd, if_neg (by omega), if_pos (by omega)]; rfl
    have e1 : t_dr s 4 i (1 + n) = t_co s n (30 + i) := by rw [t_co, if_neg (by omega), if_neg (by omega), if_pos (by omega), show 30 + i - 30 = i by omega]
    have e2 : (1 : Int32) + nI (t_dr s 5 i 7) = nI (t_se s n (30 + i)) := by rw [t_se, if_neg (by omega), if_neg (by omega), if_pos (by omega), show 30 + i - 30 = i by omega]; exact nI_add 1 _
    have e3 : (0 : Int32) = nI (t_tr s (30 + i)) := by rw [t_tr, if_neg (by omega), if_neg (by omega), if_pos (by omega)]; rfl
    obtain ⟨a1, a2, a3, a4, a5, h1, h2⟩ := ih (i + 1) f (by omega) (by omega) _ _ _ _ _ hp
    refine ⟨a1, a2, a3, a4, a5, h1, ?_⟩
    rw [← h2, ← e3, ← e0, ← e1]
    rw [m_X7_make_L195, t_half (by omega), e8, if_neg g1, e7, d4, Option.bind_some, d5, Option.bind_some, e6, e2, tm_set (by omega), Option.bind_some, nI_1]
